section
-- ===== PART A: goes FIRST, ahead of the names: the tables' words, and 'selects' of the private methods out of them =====
/-- a private method of a class that the tables say can be made, by its rows of tables_1 -/
def lw_okq (q : MethodName × Nat) : Prop := (q.1.cls ≠ "java/lang/invoke/MethodHandle" ∧ q.1.cls ≠ "java/lang/invoke/VarHandle") ∧ Cond.instantiable q.1.cls q.2 ∈ tables_1 ∧ Cond.privateMethod q.1 ∈ tables_1 ∧ Cond.instanceMethod q.1 ∈ tables_1
theorem lw_p0 : lw_okq (⟨"java/util/ArrayList", "add", "(Ljava/lang/Object;[Ljava/lang/Object;I)V"⟩, 3) := ⟨⟨by decide +kernel, by decide +kernel⟩, List.mem_of_getElem? (i := 40) (by decide +kernel), List.mem_of_getElem? (i := 213) (by decide +kernel), List.mem_of_getElem? (i := 214) (by decide +kernel)⟩
theorem lw_p1 : lw_okq (⟨"java/util/ArrayList", "grow", "()[Ljava/lang/Object;"⟩, 3) := ⟨⟨by decide +kernel, by decide +kernel⟩, List.mem_of_getElem? (i := 40) (by decide +kernel), List.mem_of_getElem? (i := 217) (by decide +kernel), List.mem_of_getElem? (i := 218) (by decide +kernel)⟩
theorem lw_p2 : lw_okq (⟨"java/util/ArrayList", "grow", "(I)[Ljava/lang/Object;"⟩, 3) := ⟨⟨by decide +kernel, by decide +kernel⟩, List.mem_of_getElem? (i := 40) (by decide +kernel), List.mem_of_getElem? (i := 221) (by decide +kernel), List.mem_of_getElem? (i := 222) (by decide +kernel)⟩
theorem lw_p3 : lw_okq (⟨"AtomicRuntime", "markAndSlide", "()V"⟩, 9) := ⟨⟨by decide +kernel, by decide +kernel⟩, List.mem_of_getElem? (i := 32) (by decide +kernel), List.mem_of_getElem? (i := 302) (by decide +kernel), List.mem_of_getElem? (i := 303) (by decide +kernel)⟩
theorem lw_p4 : lw_okq (⟨"AtomicRuntime$Heap", "beginMarking", "()V"⟩, 7) := ⟨⟨by decide +kernel, by decide +kernel⟩, List.mem_of_getElem? (i := 66) (by decide +kernel), List.mem_of_getElem? (i := 306) (by decide +kernel), List.mem_of_getElem? (i := 307) (by decide +kernel)⟩
theorem lw_p5 : lw_okq (⟨"AtomicRuntime$Heap", "reachRow", "([JI)V"⟩, 7) := ⟨⟨by decide +kernel, by decide +kernel⟩, List.mem_of_getElem? (i := 66) (by decide +kernel), List.mem_of_getElem? (i := 313) (by decide +kernel), List.mem_of_getElem? (i := 314) (by decide +kernel)⟩
theorem lw_p6 : lw_okq (⟨"AtomicRuntime$Heap", "reach", "(J)V"⟩, 7) := ⟨⟨by decide +kernel, by decide +kernel⟩, List.mem_of_getElem? (i := 66) (by decide +kernel), List.mem_of_getElem? (i := 317) (by decide +kernel), List.mem_of_getElem? (i := 318) (by decide +kernel)⟩
theorem lw_p7 : lw_okq (⟨"AtomicRuntime", "reachFrom", "(LAtomicRuntime$Strand;)V"⟩, 9) := ⟨⟨by decide +kernel, by decide +kernel⟩, List.mem_of_getElem? (i := 32) (by decide +kernel), List.mem_of_getElem? (i := 344) (by decide +kernel), List.mem_of_getElem? (i := 345) (by decide +kernel)⟩
theorem lw_p8 : lw_okq (⟨"AtomicRuntime$Strand", "registersKept", "()I"⟩, 14) := ⟨⟨by decide +kernel, by decide +kernel⟩, List.mem_of_getElem? (i := 118) (by decide +kernel), List.mem_of_getElem? (i := 348) (by decide +kernel), List.mem_of_getElem? (i := 349) (by decide +kernel)⟩
theorem lw_p9 : lw_okq (⟨"AtomicRuntime$Heap", "reachPlaces", "([II)V"⟩, 7) := ⟨⟨by decide +kernel, by decide +kernel⟩, List.mem_of_getElem? (i := 66) (by decide +kernel), List.mem_of_getElem? (i := 352) (by decide +kernel), List.mem_of_getElem? (i := 353) (by decide +kernel)⟩
theorem lw_p10 : lw_okq (⟨"AtomicRuntime$Heap", "reachOnward", "()V"⟩, 7) := ⟨⟨by decide +kernel, by decide +kernel⟩, List.mem_of_getElem? (i := 66) (by decide +kernel), List.mem_of_getElem? (i := 357) (by decide +kernel), List.mem_of_getElem? (i := 358) (by decide +kernel)⟩
theorem lw_p11 : lw_okq (⟨"AtomicRuntime$Heap", "slide", "()V"⟩, 7) := ⟨⟨by decide +kernel, by decide +kernel⟩, List.mem_of_getElem? (i := 66) (by decide +kernel), List.mem_of_getElem? (i := 361) (by decide +kernel), List.mem_of_getElem? (i := 362) (by decide +kernel)⟩
theorem lw_p12 : lw_okq (⟨"AtomicRuntime$Heap", "followRow", "([JI)V"⟩, 7) := ⟨⟨by decide +kernel, by decide +kernel⟩, List.mem_of_getElem? (i := 66) (by decide +kernel), List.mem_of_getElem? (i := 365) (by decide +kernel), List.mem_of_getElem? (i := 366) (by decide +kernel)⟩
theorem lw_p13 : lw_okq (⟨"AtomicRuntime", "followIn", "(LAtomicRuntime$Strand;)V"⟩, 9) := ⟨⟨by decide +kernel, by decide +kernel⟩, List.mem_of_getElem? (i := 32) (by decide +kernel), List.mem_of_getElem? (i := 370) (by decide +kernel), List.mem_of_getElem? (i := 371) (by decide +kernel)⟩
theorem lw_p14 : lw_okq (⟨"AtomicRuntime$Strand", "forgetPlacesFrom", "(I)V"⟩, 14) := ⟨⟨by decide +kernel, by decide +kernel⟩, List.mem_of_getElem? (i := 118) (by decide +kernel), List.mem_of_getElem? (i := 374) (by decide +kernel), List.mem_of_getElem? (i := 375) (by decide +kernel)⟩
theorem lw_p15 : lw_okq (⟨"AtomicRuntime$Heap", "followPlaces", "([II)V"⟩, 7) := ⟨⟨by decide +kernel, by decide +kernel⟩, List.mem_of_getElem? (i := 66) (by decide +kernel), List.mem_of_getElem? (i := 379) (by decide +kernel), List.mem_of_getElem? (i := 380) (by decide +kernel)⟩
def lw_privs_1 : List (MethodName × Nat) := [(⟨"java/util/ArrayList", "add", "(Ljava/lang/Object;[Ljava/lang/Object;I)V"⟩, 3), (⟨"java/util/ArrayList", "grow", "()[Ljava/lang/Object;"⟩, 3), (⟨"java/util/ArrayList", "grow", "(I)[Ljava/lang/Object;"⟩, 3), (⟨"AtomicRuntime", "markAndSlide", "()V"⟩, 9), (⟨"AtomicRuntime$Heap", "beginMarking", "()V"⟩, 7), (⟨"AtomicRuntime$Heap", "reachRow", "([JI)V"⟩, 7), (⟨"AtomicRuntime$Heap", "reach", "(J)V"⟩, 7), (⟨"AtomicRuntime", "reachFrom", "(LAtomicRuntime$Strand;)V"⟩, 9), (⟨"AtomicRuntime$Strand", "registersKept", "()I"⟩, 14), (⟨"AtomicRuntime$Heap", "reachPlaces", "([II)V"⟩, 7), (⟨"AtomicRuntime$Heap", "reachOnward", "()V"⟩, 7), (⟨"AtomicRuntime$Heap", "slide", "()V"⟩, 7), (⟨"AtomicRuntime$Heap", "followRow", "([JI)V"⟩, 7), (⟨"AtomicRuntime", "followIn", "(LAtomicRuntime$Strand;)V"⟩, 9), (⟨"AtomicRuntime$Strand", "forgetPlacesFrom", "(I)V"⟩, 14), (⟨"AtomicRuntime$Heap", "followPlaces", "([II)V"⟩, 7)]
theorem lw_r1 : ∀ q ∈ lw_privs_1, lw_okq q := List.forall_mem_cons.mpr ⟨lw_p0, List.forall_mem_cons.mpr ⟨lw_p1, List.forall_mem_cons.mpr ⟨lw_p2, List.forall_mem_cons.mpr ⟨lw_p3, List.forall_mem_cons.mpr ⟨lw_p4, List.forall_mem_cons.mpr ⟨lw_p5, List.forall_mem_cons.mpr ⟨lw_p6, List.forall_mem_cons.mpr ⟨lw_p7, List.forall_mem_cons.mpr ⟨lw_p8, List.forall_mem_cons.mpr ⟨lw_p9, List.forall_mem_cons.mpr ⟨lw_p10, List.forall_mem_cons.mpr ⟨lw_p11, List.forall_mem_cons.mpr ⟨lw_p12, List.forall_mem_cons.mpr ⟨lw_p13, List.forall_mem_cons.mpr ⟨lw_p14, List.forall_mem_cons.mpr ⟨lw_p15, fun _ h => absurd h List.not_mem_nil⟩⟩⟩⟩⟩⟩⟩⟩⟩⟩⟩⟩⟩⟩⟩⟩
theorem lw_p16 : lw_okq (⟨"AtomicRuntime", "isDeadlocked", "()Z"⟩, 9) := ⟨⟨by decide +kernel, by decide +kernel⟩, List.mem_of_getElem? (i := 32) (by decide +kernel), List.mem_of_getElem? (i := 387) (by decide +kernel), List.mem_of_getElem? (i := 388) (by decide +kernel)⟩
theorem lw_p17 : lw_okq (⟨"java/lang/Throwable", "fillInStackTrace", "(I)Ljava/lang/Throwable;"⟩, 6) := ⟨⟨by decide +kernel, by decide +kernel⟩, List.mem_of_getElem? (i := 438) (by decide +kernel), List.mem_of_getElem? (i := 436) (by decide +kernel), List.mem_of_getElem? (i := 437) (by decide +kernel)⟩
theorem lw_p18 : lw_okq (⟨"AtomicRuntime", "step", "(LAtomicRuntime$Strand;)V"⟩, 9) := ⟨⟨by decide +kernel, by decide +kernel⟩, List.mem_of_getElem? (i := 32) (by decide +kernel), List.mem_of_getElem? (i := 525) (by decide +kernel), List.mem_of_getElem? (i := 526) (by decide +kernel)⟩
theorem lw_p19 : lw_okq (⟨"AtomicRuntime", "perform", "(LAtomicRuntime$Strand;LAtomicRuntime$Instruction;)I"⟩, 9) := ⟨⟨by decide +kernel, by decide +kernel⟩, List.mem_of_getElem? (i := 32) (by decide +kernel), List.mem_of_getElem? (i := 529) (by decide +kernel), List.mem_of_getElem? (i := 530) (by decide +kernel)⟩
theorem lw_p20 : lw_okq (⟨"AtomicRuntime$Strand", "isInTransaction", "()Z"⟩, 14) := ⟨⟨by decide +kernel, by decide +kernel⟩, List.mem_of_getElem? (i := 118) (by decide +kernel), List.mem_of_getElem? (i := 590) (by decide +kernel), List.mem_of_getElem? (i := 591) (by decide +kernel)⟩
theorem lw_p21 : lw_okq (⟨"AtomicRuntime$Strand", "callsOfInnermostNest", "()I"⟩, 14) := ⟨⟨by decide +kernel, by decide +kernel⟩, List.mem_of_getElem? (i := 118) (by decide +kernel), List.mem_of_getElem? (i := 609) (by decide +kernel), List.mem_of_getElem? (i := 610) (by decide +kernel)⟩
theorem lw_p22 : lw_okq (⟨"AtomicRuntime", "readVar", "(LAtomicRuntime$Strand;II)I"⟩, 9) := ⟨⟨by decide +kernel, by decide +kernel⟩, List.mem_of_getElem? (i := 32) (by decide +kernel), List.mem_of_getElem? (i := 617) (by decide +kernel), List.mem_of_getElem? (i := 618) (by decide +kernel)⟩
theorem lw_p23 : lw_okq (⟨"AtomicRuntime$Log", "lastWriteOf", "(I)I"⟩, 6) := ⟨⟨by decide +kernel, by decide +kernel⟩, List.mem_of_getElem? (i := 124) (by decide +kernel), List.mem_of_getElem? (i := 622) (by decide +kernel), List.mem_of_getElem? (i := 623) (by decide +kernel)⟩
theorem lw_p24 : lw_okq (⟨"AtomicRuntime", "abort", "(LAtomicRuntime$Strand;)V"⟩, 9) := ⟨⟨by decide +kernel, by decide +kernel⟩, List.mem_of_getElem? (i := 32) (by decide +kernel), List.mem_of_getElem? (i := 626) (by decide +kernel), List.mem_of_getElem? (i := 627) (by decide +kernel)⟩
theorem lw_p25 : lw_okq (⟨"AtomicRuntime$Strand", "beginAgain", "(I)V"⟩, 14) := ⟨⟨by decide +kernel, by decide +kernel⟩, List.mem_of_getElem? (i := 118) (by decide +kernel), List.mem_of_getElem? (i := 630) (by decide +kernel), List.mem_of_getElem? (i := 631) (by decide +kernel)⟩
theorem lw_p26 : lw_okq (⟨"AtomicRuntime$Strand", "restore", "(I)V"⟩, 14) := ⟨⟨by decide +kernel, by decide +kernel⟩, List.mem_of_getElem? (i := 118) (by decide +kernel), List.mem_of_getElem? (i := 634) (by decide +kernel), List.mem_of_getElem? (i := 635) (by decide +kernel)⟩
theorem lw_p27 : lw_okq (⟨"AtomicRuntime$Strand", "dropNestsTo", "(I)V"⟩, 14) := ⟨⟨by decide +kernel, by decide +kernel⟩, List.mem_of_getElem? (i := 118) (by decide +kernel), List.mem_of_getElem? (i := 639) (by decide +kernel), List.mem_of_getElem? (i := 640) (by decide +kernel)⟩
theorem lw_p28 : lw_okq (⟨"AtomicRuntime$Log", "begin", "(I)V"⟩, 6) := ⟨⟨by decide +kernel, by decide +kernel⟩, List.mem_of_getElem? (i := 124) (by decide +kernel), List.mem_of_getElem? (i := 643) (by decide +kernel), List.mem_of_getElem? (i := 644) (by decide +kernel)⟩
theorem lw_p29 : lw_okq (⟨"AtomicRuntime$Log", "hasRead", "(I)Z"⟩, 6) := ⟨⟨by decide +kernel, by decide +kernel⟩, List.mem_of_getElem? (i := 124) (by decide +kernel), List.mem_of_getElem? (i := 647) (by decide +kernel), List.mem_of_getElem? (i := 648) (by decide +kernel)⟩
theorem lw_p30 : lw_okq (⟨"AtomicRuntime$Log", "addRead", "(I)V"⟩, 6) := ⟨⟨by decide +kernel, by decide +kernel⟩, List.mem_of_getElem? (i := 124) (by decide +kernel), List.mem_of_getElem? (i := 651) (by decide +kernel), List.mem_of_getElem? (i := 652) (by decide +kernel)⟩
theorem lw_p31 : lw_okq (⟨"AtomicRuntime", "writeVar", "(LAtomicRuntime$Strand;II)I"⟩, 9) := ⟨⟨by decide +kernel, by decide +kernel⟩, List.mem_of_getElem? (i := 32) (by decide +kernel), List.mem_of_getElem? (i := 655) (by decide +kernel), List.mem_of_getElem? (i := 656) (by decide +kernel)⟩
def lw_privs_2 : List (MethodName × Nat) := [(⟨"AtomicRuntime", "isDeadlocked", "()Z"⟩, 9), (⟨"java/lang/Throwable", "fillInStackTrace", "(I)Ljava/lang/Throwable;"⟩, 6), (⟨"AtomicRuntime", "step", "(LAtomicRuntime$Strand;)V"⟩, 9), (⟨"AtomicRuntime", "perform", "(LAtomicRuntime$Strand;LAtomicRuntime$Instruction;)I"⟩, 9), (⟨"AtomicRuntime$Strand", "isInTransaction", "()Z"⟩, 14), (⟨"AtomicRuntime$Strand", "callsOfInnermostNest", "()I"⟩, 14), (⟨"AtomicRuntime", "readVar", "(LAtomicRuntime$Strand;II)I"⟩, 9), (⟨"AtomicRuntime$Log", "lastWriteOf", "(I)I"⟩, 6), (⟨"AtomicRuntime", "abort", "(LAtomicRuntime$Strand;)V"⟩, 9), (⟨"AtomicRuntime$Strand", "beginAgain", "(I)V"⟩, 14), (⟨"AtomicRuntime$Strand", "restore", "(I)V"⟩, 14), (⟨"AtomicRuntime$Strand", "dropNestsTo", "(I)V"⟩, 14), (⟨"AtomicRuntime$Log", "begin", "(I)V"⟩, 6), (⟨"AtomicRuntime$Log", "hasRead", "(I)Z"⟩, 6), (⟨"AtomicRuntime$Log", "addRead", "(I)V"⟩, 6), (⟨"AtomicRuntime", "writeVar", "(LAtomicRuntime$Strand;II)I"⟩, 9)]
theorem lw_r2 : ∀ q ∈ lw_privs_2, lw_okq q := List.forall_mem_cons.mpr ⟨lw_p16, List.forall_mem_cons.mpr ⟨lw_p17, List.forall_mem_cons.mpr ⟨lw_p18, List.forall_mem_cons.mpr ⟨lw_p19, List.forall_mem_cons.mpr ⟨lw_p20, List.forall_mem_cons.mpr ⟨lw_p21, List.forall_mem_cons.mpr ⟨lw_p22, List.forall_mem_cons.mpr ⟨lw_p23, List.forall_mem_cons.mpr ⟨lw_p24, List.forall_mem_cons.mpr ⟨lw_p25, List.forall_mem_cons.mpr ⟨lw_p26, List.forall_mem_cons.mpr ⟨lw_p27, List.forall_mem_cons.mpr ⟨lw_p28, List.forall_mem_cons.mpr ⟨lw_p29, List.forall_mem_cons.mpr ⟨lw_p30, List.forall_mem_cons.mpr ⟨lw_p31, fun _ h => absurd h List.not_mem_nil⟩⟩⟩⟩⟩⟩⟩⟩⟩⟩⟩⟩⟩⟩⟩⟩
theorem lw_p32 : lw_okq (⟨"AtomicRuntime$Log", "addWrite", "(IJ)V"⟩, 6) := ⟨⟨by decide +kernel, by decide +kernel⟩, List.mem_of_getElem? (i := 124) (by decide +kernel), List.mem_of_getElem? (i := 659) (by decide +kernel), List.mem_of_getElem? (i := 660) (by decide +kernel)⟩
theorem lw_p33 : lw_okq (⟨"AtomicRuntime", "commit", "(LAtomicRuntime$Strand;)V"⟩, 9) := ⟨⟨by decide +kernel, by decide +kernel⟩, List.mem_of_getElem? (i := 32) (by decide +kernel), List.mem_of_getElem? (i := 663) (by decide +kernel), List.mem_of_getElem? (i := 664) (by decide +kernel)⟩
theorem lw_p34 : lw_okq (⟨"AtomicRuntime$Log", "isValid", "(LAtomicRuntime$Heap;)Z"⟩, 6) := ⟨⟨by decide +kernel, by decide +kernel⟩, List.mem_of_getElem? (i := 124) (by decide +kernel), List.mem_of_getElem? (i := 667) (by decide +kernel), List.mem_of_getElem? (i := 668) (by decide +kernel)⟩
theorem lw_p35 : lw_okq (⟨"AtomicRuntime$Heap", "assign", "(IJI)V"⟩, 7) := ⟨⟨by decide +kernel, by decide +kernel⟩, List.mem_of_getElem? (i := 66) (by decide +kernel), List.mem_of_getElem? (i := 672) (by decide +kernel), List.mem_of_getElem? (i := 673) (by decide +kernel)⟩
theorem lw_p36 : lw_okq (⟨"AtomicRuntime", "wakeReadersOf", "(LAtomicRuntime$Log;)V"⟩, 9) := ⟨⟨by decide +kernel, by decide +kernel⟩, List.mem_of_getElem? (i := 32) (by decide +kernel), List.mem_of_getElem? (i := 676) (by decide +kernel), List.mem_of_getElem? (i := 677) (by decide +kernel)⟩
theorem lw_p37 : lw_okq (⟨"AtomicRuntime$Log", "readsOneThatIsIn", "(LAtomicRuntime$Log;)Z"⟩, 6) := ⟨⟨by decide +kernel, by decide +kernel⟩, List.mem_of_getElem? (i := 124) (by decide +kernel), List.mem_of_getElem? (i := 680) (by decide +kernel), List.mem_of_getElem? (i := 681) (by decide +kernel)⟩
theorem lw_p38 : lw_okq (⟨"AtomicRuntime$Log", "clear", "()V"⟩, 6) := ⟨⟨by decide +kernel, by decide +kernel⟩, List.mem_of_getElem? (i := 124) (by decide +kernel), List.mem_of_getElem? (i := 685) (by decide +kernel), List.mem_of_getElem? (i := 686) (by decide +kernel)⟩
theorem lw_p39 : lw_okq (⟨"AtomicRuntime", "retry", "(LAtomicRuntime$Strand;)V"⟩, 9) := ⟨⟨by decide +kernel, by decide +kernel⟩, List.mem_of_getElem? (i := 32) (by decide +kernel), List.mem_of_getElem? (i := 689) (by decide +kernel), List.mem_of_getElem? (i := 690) (by decide +kernel)⟩
theorem lw_p40 : lw_okq (⟨"AtomicRuntime$Strand", "rollBackTo", "(I)V"⟩, 14) := ⟨⟨by decide +kernel, by decide +kernel⟩, List.mem_of_getElem? (i := 118) (by decide +kernel), List.mem_of_getElem? (i := 693) (by decide +kernel), List.mem_of_getElem? (i := 694) (by decide +kernel)⟩
theorem lw_p41 : lw_okq (⟨"AtomicRuntime", "raise", "(LAtomicRuntime$Strand;I)V"⟩, 9) := ⟨⟨by decide +kernel, by decide +kernel⟩, List.mem_of_getElem? (i := 32) (by decide +kernel), List.mem_of_getElem? (i := 697) (by decide +kernel), List.mem_of_getElem? (i := 698) (by decide +kernel)⟩
theorem lw_p42 : lw_okq (⟨"AtomicRuntime$Strand", "fail", "(I)V"⟩, 14) := ⟨⟨by decide +kernel, by decide +kernel⟩, List.mem_of_getElem? (i := 118) (by decide +kernel), List.mem_of_getElem? (i := 701) (by decide +kernel), List.mem_of_getElem? (i := 702) (by decide +kernel)⟩
theorem lw_p43 : lw_okq (⟨"AtomicRuntime", "openOrEnd", "(LAtomicRuntime$Strand;LAtomicRuntime$Op;I)V"⟩, 9) := ⟨⟨by decide +kernel, by decide +kernel⟩, List.mem_of_getElem? (i := 32) (by decide +kernel), List.mem_of_getElem? (i := 706) (by decide +kernel), List.mem_of_getElem? (i := 707) (by decide +kernel)⟩
theorem lw_p44 : lw_okq (⟨"AtomicRuntime$Strand", "openNest", "(II)V"⟩, 14) := ⟨⟨by decide +kernel, by decide +kernel⟩, List.mem_of_getElem? (i := 118) (by decide +kernel), List.mem_of_getElem? (i := 710) (by decide +kernel), List.mem_of_getElem? (i := 711) (by decide +kernel)⟩
theorem lw_p45 : lw_okq (⟨"AtomicRuntime", "performPlainly", "(LAtomicRuntime$Strand;LAtomicRuntime$Op;LAtomicRuntime$Instruction;)V"⟩, 9) := ⟨⟨by decide +kernel, by decide +kernel⟩, List.mem_of_getElem? (i := 32) (by decide +kernel), List.mem_of_getElem? (i := 715) (by decide +kernel), List.mem_of_getElem? (i := 716) (by decide +kernel)⟩
theorem lw_p46 : lw_okq (⟨"AtomicRuntime$Strand", "enter", "(I)V"⟩, 14) := ⟨⟨by decide +kernel, by decide +kernel⟩, List.mem_of_getElem? (i := 118) (by decide +kernel), List.mem_of_getElem? (i := 719) (by decide +kernel), List.mem_of_getElem? (i := 720) (by decide +kernel)⟩
theorem lw_p47 : lw_okq (⟨"AtomicRuntime$Strand", "leave", "()V"⟩, 14) := ⟨⟨by decide +kernel, by decide +kernel⟩, List.mem_of_getElem? (i := 118) (by decide +kernel), List.mem_of_getElem? (i := 723) (by decide +kernel), List.mem_of_getElem? (i := 724) (by decide +kernel)⟩
def lw_privs_3 : List (MethodName × Nat) := [(⟨"AtomicRuntime$Log", "addWrite", "(IJ)V"⟩, 6), (⟨"AtomicRuntime", "commit", "(LAtomicRuntime$Strand;)V"⟩, 9), (⟨"AtomicRuntime$Log", "isValid", "(LAtomicRuntime$Heap;)Z"⟩, 6), (⟨"AtomicRuntime$Heap", "assign", "(IJI)V"⟩, 7), (⟨"AtomicRuntime", "wakeReadersOf", "(LAtomicRuntime$Log;)V"⟩, 9), (⟨"AtomicRuntime$Log", "readsOneThatIsIn", "(LAtomicRuntime$Log;)Z"⟩, 6), (⟨"AtomicRuntime$Log", "clear", "()V"⟩, 6), (⟨"AtomicRuntime", "retry", "(LAtomicRuntime$Strand;)V"⟩, 9), (⟨"AtomicRuntime$Strand", "rollBackTo", "(I)V"⟩, 14), (⟨"AtomicRuntime", "raise", "(LAtomicRuntime$Strand;I)V"⟩, 9), (⟨"AtomicRuntime$Strand", "fail", "(I)V"⟩, 14), (⟨"AtomicRuntime", "openOrEnd", "(LAtomicRuntime$Strand;LAtomicRuntime$Op;I)V"⟩, 9), (⟨"AtomicRuntime$Strand", "openNest", "(II)V"⟩, 14), (⟨"AtomicRuntime", "performPlainly", "(LAtomicRuntime$Strand;LAtomicRuntime$Op;LAtomicRuntime$Instruction;)V"⟩, 9), (⟨"AtomicRuntime$Strand", "enter", "(I)V"⟩, 14), (⟨"AtomicRuntime$Strand", "leave", "()V"⟩, 14)]
theorem lw_r3 : ∀ q ∈ lw_privs_3, lw_okq q := List.forall_mem_cons.mpr ⟨lw_p32, List.forall_mem_cons.mpr ⟨lw_p33, List.forall_mem_cons.mpr ⟨lw_p34, List.forall_mem_cons.mpr ⟨lw_p35, List.forall_mem_cons.mpr ⟨lw_p36, List.forall_mem_cons.mpr ⟨lw_p37, List.forall_mem_cons.mpr ⟨lw_p38, List.forall_mem_cons.mpr ⟨lw_p39, List.forall_mem_cons.mpr ⟨lw_p40, List.forall_mem_cons.mpr ⟨lw_p41, List.forall_mem_cons.mpr ⟨lw_p42, List.forall_mem_cons.mpr ⟨lw_p43, List.forall_mem_cons.mpr ⟨lw_p44, List.forall_mem_cons.mpr ⟨lw_p45, List.forall_mem_cons.mpr ⟨lw_p46, List.forall_mem_cons.mpr ⟨lw_p47, fun _ h => absurd h List.not_mem_nil⟩⟩⟩⟩⟩⟩⟩⟩⟩⟩⟩⟩⟩⟩⟩⟩
theorem lw_p48 : lw_okq (⟨"AtomicRuntime$Heap", "newPair", "(JJ)J"⟩, 7) := ⟨⟨by decide +kernel, by decide +kernel⟩, List.mem_of_getElem? (i := 66) (by decide +kernel), List.mem_of_getElem? (i := 727) (by decide +kernel), List.mem_of_getElem? (i := 728) (by decide +kernel)⟩
theorem lw_p49 : lw_okq (⟨"AtomicRuntime$Heap", "fillNext", "(IJJ)I"⟩, 7) := ⟨⟨by decide +kernel, by decide +kernel⟩, List.mem_of_getElem? (i := 66) (by decide +kernel), List.mem_of_getElem? (i := 731) (by decide +kernel), List.mem_of_getElem? (i := 732) (by decide +kernel)⟩
theorem lw_p50 : lw_okq (⟨"AtomicRuntime$Heap", "newVar", "(J)J"⟩, 7) := ⟨⟨by decide +kernel, by decide +kernel⟩, List.mem_of_getElem? (i := 66) (by decide +kernel), List.mem_of_getElem? (i := 735) (by decide +kernel), List.mem_of_getElem? (i := 736) (by decide +kernel)⟩
theorem lw_p51 : lw_okq (⟨"AtomicRuntime", "fork", "(LAtomicRuntime$Strand;II)V"⟩, 9) := ⟨⟨by decide +kernel, by decide +kernel⟩, List.mem_of_getElem? (i := 32) (by decide +kernel), List.mem_of_getElem? (i := 739) (by decide +kernel), List.mem_of_getElem? (i := 740) (by decide +kernel)⟩
theorem lw_p52 : lw_okq (⟨"AtomicRuntime$Printout", "append", "(I)V"⟩, 3) := ⟨⟨by decide +kernel, by decide +kernel⟩, List.mem_of_getElem? (i := 101) (by decide +kernel), List.mem_of_getElem? (i := 745) (by decide +kernel), List.mem_of_getElem? (i := 746) (by decide +kernel)⟩
theorem lw_p53 : lw_okq (⟨"AtomicRuntime$Printout", "numberAt", "(I)I"⟩, 3) := ⟨⟨by decide +kernel, by decide +kernel⟩, List.mem_of_getElem? (i := 101) (by decide +kernel), List.mem_of_getElem? (i := 807) (by decide +kernel), List.mem_of_getElem? (i := 808) (by decide +kernel)⟩
theorem lw_p54 : lw_okq (⟨"AtomicRuntimeModel", "fail", "(I)I"⟩, 22) := ⟨⟨by decide +kernel, by decide +kernel⟩, List.mem_of_getElem? (i := 811) (by decide +kernel), List.mem_of_getElem? (i := 971) (by decide +kernel), List.mem_of_getElem? (i := 972) (by decide +kernel)⟩
theorem lw_p55 : lw_okq (⟨"AtomicRuntimeModel", "noTask", "(I)Z"⟩, 22) := ⟨⟨by decide +kernel, by decide +kernel⟩, List.mem_of_getElem? (i := 811) (by decide +kernel), List.mem_of_getElem? (i := 979) (by decide +kernel), List.mem_of_getElem? (i := 980) (by decide +kernel)⟩
theorem lw_p56 : lw_okq (⟨"AtomicRuntimeModel", "step", "(LAtomicRuntimeModel$Task;)V"⟩, 22) := ⟨⟨by decide +kernel, by decide +kernel⟩, List.mem_of_getElem? (i := 811) (by decide +kernel), List.mem_of_getElem? (i := 983) (by decide +kernel), List.mem_of_getElem? (i := 984) (by decide +kernel)⟩
theorem lw_p57 : lw_okq (⟨"AtomicRuntimeModel", "known", "(LAtomicRuntimeModel$Task;IIII)I"⟩, 22) := ⟨⟨by decide +kernel, by decide +kernel⟩, List.mem_of_getElem? (i := 811) (by decide +kernel), List.mem_of_getElem? (i := 987) (by decide +kernel), List.mem_of_getElem? (i := 988) (by decide +kernel)⟩
theorem lw_p58 : lw_okq (⟨"AtomicRuntimeModel", "wrong", "(LAtomicRuntimeModel$Task;IIII)Z"⟩, 22) := ⟨⟨by decide +kernel, by decide +kernel⟩, List.mem_of_getElem? (i := 811) (by decide +kernel), List.mem_of_getElem? (i := 991) (by decide +kernel), List.mem_of_getElem? (i := 992) (by decide +kernel)⟩
theorem lw_p59 : lw_okq (⟨"AtomicRuntimeModel", "plain", "(LAtomicRuntimeModel$Task;IIII)I"⟩, 22) := ⟨⟨by decide +kernel, by decide +kernel⟩, List.mem_of_getElem? (i := 811) (by decide +kernel), List.mem_of_getElem? (i := 1016) (by decide +kernel), List.mem_of_getElem? (i := 1017) (by decide +kernel)⟩
theorem lw_p60 : lw_okq (⟨"AtomicRuntimeModel", "made", "(LAtomicRuntimeModel$Task;ZIII)I"⟩, 22) := ⟨⟨by decide +kernel, by decide +kernel⟩, List.mem_of_getElem? (i := 811) (by decide +kernel), List.mem_of_getElem? (i := 1024) (by decide +kernel), List.mem_of_getElem? (i := 1025) (by decide +kernel)⟩
theorem lw_p61 : lw_okq (⟨"AtomicRuntimeModel", "gather", "()V"⟩, 22) := ⟨⟨by decide +kernel, by decide +kernel⟩, List.mem_of_getElem? (i := 811) (by decide +kernel), List.mem_of_getElem? (i := 1028) (by decide +kernel), List.mem_of_getElem? (i := 1029) (by decide +kernel)⟩
theorem lw_p62 : lw_okq (⟨"AtomicRuntimeModel", "reachRow", "([JI)Z"⟩, 22) := ⟨⟨by decide +kernel, by decide +kernel⟩, List.mem_of_getElem? (i := 811) (by decide +kernel), List.mem_of_getElem? (i := 1032) (by decide +kernel), List.mem_of_getElem? (i := 1033) (by decide +kernel)⟩
theorem lw_p63 : lw_okq (⟨"AtomicRuntimeModel", "reach", "(J)Z"⟩, 22) := ⟨⟨by decide +kernel, by decide +kernel⟩, List.mem_of_getElem? (i := 811) (by decide +kernel), List.mem_of_getElem? (i := 1036) (by decide +kernel), List.mem_of_getElem? (i := 1037) (by decide +kernel)⟩
def lw_privs_4 : List (MethodName × Nat) := [(⟨"AtomicRuntime$Heap", "newPair", "(JJ)J"⟩, 7), (⟨"AtomicRuntime$Heap", "fillNext", "(IJJ)I"⟩, 7), (⟨"AtomicRuntime$Heap", "newVar", "(J)J"⟩, 7), (⟨"AtomicRuntime", "fork", "(LAtomicRuntime$Strand;II)V"⟩, 9), (⟨"AtomicRuntime$Printout", "append", "(I)V"⟩, 3), (⟨"AtomicRuntime$Printout", "numberAt", "(I)I"⟩, 3), (⟨"AtomicRuntimeModel", "fail", "(I)I"⟩, 22), (⟨"AtomicRuntimeModel", "noTask", "(I)Z"⟩, 22), (⟨"AtomicRuntimeModel", "step", "(LAtomicRuntimeModel$Task;)V"⟩, 22), (⟨"AtomicRuntimeModel", "known", "(LAtomicRuntimeModel$Task;IIII)I"⟩, 22), (⟨"AtomicRuntimeModel", "wrong", "(LAtomicRuntimeModel$Task;IIII)Z"⟩, 22), (⟨"AtomicRuntimeModel", "plain", "(LAtomicRuntimeModel$Task;IIII)I"⟩, 22), (⟨"AtomicRuntimeModel", "made", "(LAtomicRuntimeModel$Task;ZIII)I"⟩, 22), (⟨"AtomicRuntimeModel", "gather", "()V"⟩, 22), (⟨"AtomicRuntimeModel", "reachRow", "([JI)Z"⟩, 22), (⟨"AtomicRuntimeModel", "reach", "(J)Z"⟩, 22)]
theorem lw_r4 : ∀ q ∈ lw_privs_4, lw_okq q := List.forall_mem_cons.mpr ⟨lw_p48, List.forall_mem_cons.mpr ⟨lw_p49, List.forall_mem_cons.mpr ⟨lw_p50, List.forall_mem_cons.mpr ⟨lw_p51, List.forall_mem_cons.mpr ⟨lw_p52, List.forall_mem_cons.mpr ⟨lw_p53, List.forall_mem_cons.mpr ⟨lw_p54, List.forall_mem_cons.mpr ⟨lw_p55, List.forall_mem_cons.mpr ⟨lw_p56, List.forall_mem_cons.mpr ⟨lw_p57, List.forall_mem_cons.mpr ⟨lw_p58, List.forall_mem_cons.mpr ⟨lw_p59, List.forall_mem_cons.mpr ⟨lw_p60, List.forall_mem_cons.mpr ⟨lw_p61, List.forall_mem_cons.mpr ⟨lw_p62, List.forall_mem_cons.mpr ⟨lw_p63, fun _ h => absurd h List.not_mem_nil⟩⟩⟩⟩⟩⟩⟩⟩⟩⟩⟩⟩⟩⟩⟩⟩
theorem lw_p64 : lw_okq (⟨"AtomicRuntimeModel", "slide", "()V"⟩, 22) := ⟨⟨by decide +kernel, by decide +kernel⟩, List.mem_of_getElem? (i := 811) (by decide +kernel), List.mem_of_getElem? (i := 1043) (by decide +kernel), List.mem_of_getElem? (i := 1044) (by decide +kernel)⟩
theorem lw_p65 : lw_okq (⟨"AtomicRuntimeModel", "moved", "(J)J"⟩, 22) := ⟨⟨by decide +kernel, by decide +kernel⟩, List.mem_of_getElem? (i := 811) (by decide +kernel), List.mem_of_getElem? (i := 1047) (by decide +kernel), List.mem_of_getElem? (i := 1048) (by decide +kernel)⟩
theorem lw_p66 : lw_okq (⟨"AtomicRuntimeModel", "moveRow", "([JI)V"⟩, 22) := ⟨⟨by decide +kernel, by decide +kernel⟩, List.mem_of_getElem? (i := 811) (by decide +kernel), List.mem_of_getElem? (i := 1051) (by decide +kernel), List.mem_of_getElem? (i := 1052) (by decide +kernel)⟩
theorem lw_p67 : lw_okq (⟨"AtomicRuntimeModel", "guarded", "(LAtomicRuntimeModel$Task;III)I"⟩, 22) := ⟨⟨by decide +kernel, by decide +kernel⟩, List.mem_of_getElem? (i := 811) (by decide +kernel), List.mem_of_getElem? (i := 1056) (by decide +kernel), List.mem_of_getElem? (i := 1057) (by decide +kernel)⟩
theorem lw_p68 : lw_okq (⟨"AtomicRuntimeModel", "reading", "(LAtomicRuntimeModel$Task;IJ)I"⟩, 22) := ⟨⟨by decide +kernel, by decide +kernel⟩, List.mem_of_getElem? (i := 811) (by decide +kernel), List.mem_of_getElem? (i := 1060) (by decide +kernel), List.mem_of_getElem? (i := 1061) (by decide +kernel)⟩
theorem lw_p69 : lw_okq (⟨"AtomicRuntimeModel", "aborted", "(LAtomicRuntimeModel$Task;)I"⟩, 22) := ⟨⟨by decide +kernel, by decide +kernel⟩, List.mem_of_getElem? (i := 811) (by decide +kernel), List.mem_of_getElem? (i := 1064) (by decide +kernel), List.mem_of_getElem? (i := 1065) (by decide +kernel)⟩
theorem lw_p70 : lw_okq (⟨"AtomicRuntimeModel$Task", "restore", "(I)V"⟩, 18) := ⟨⟨by decide +kernel, by decide +kernel⟩, List.mem_of_getElem? (i := 818) (by decide +kernel), List.mem_of_getElem? (i := 1073) (by decide +kernel), List.mem_of_getElem? (i := 1074) (by decide +kernel)⟩
theorem lw_p71 : lw_okq (⟨"AtomicRuntimeModel", "valid", "(LAtomicRuntimeModel$Task;)Z"⟩, 22) := ⟨⟨by decide +kernel, by decide +kernel⟩, List.mem_of_getElem? (i := 811) (by decide +kernel), List.mem_of_getElem? (i := 1085) (by decide +kernel), List.mem_of_getElem? (i := 1086) (by decide +kernel)⟩
theorem lw_p72 : lw_okq (⟨"AtomicRuntimeModel", "committed", "(LAtomicRuntimeModel$Task;)I"⟩, 22) := ⟨⟨by decide +kernel, by decide +kernel⟩, List.mem_of_getElem? (i := 811) (by decide +kernel), List.mem_of_getElem? (i := 1089) (by decide +kernel), List.mem_of_getElem? (i := 1090) (by decide +kernel)⟩
theorem lw_p73 : lw_okq (⟨"AtomicRuntimeModel", "retried", "(LAtomicRuntimeModel$Task;)I"⟩, 22) := ⟨⟨by decide +kernel, by decide +kernel⟩, List.mem_of_getElem? (i := 811) (by decide +kernel), List.mem_of_getElem? (i := 1093) (by decide +kernel), List.mem_of_getElem? (i := 1094) (by decide +kernel)⟩
theorem lw_p74 : lw_okq (⟨"AtomicRuntimeModel", "thrownUp", "(LAtomicRuntimeModel$Task;I)I"⟩, 22) := ⟨⟨by decide +kernel, by decide +kernel⟩, List.mem_of_getElem? (i := 811) (by decide +kernel), List.mem_of_getElem? (i := 1101) (by decide +kernel), List.mem_of_getElem? (i := 1102) (by decide +kernel)⟩
theorem lw_p75 : lw_okq (⟨"AtomicRuntimeModel", "outer", "(LAtomicRuntimeModel$Task;III)I"⟩, 22) := ⟨⟨by decide +kernel, by decide +kernel⟩, List.mem_of_getElem? (i := 811) (by decide +kernel), List.mem_of_getElem? (i := 1105) (by decide +kernel), List.mem_of_getElem? (i := 1106) (by decide +kernel)⟩
def lw_privs_5 : List (MethodName × Nat) := [(⟨"AtomicRuntimeModel", "slide", "()V"⟩, 22), (⟨"AtomicRuntimeModel", "moved", "(J)J"⟩, 22), (⟨"AtomicRuntimeModel", "moveRow", "([JI)V"⟩, 22), (⟨"AtomicRuntimeModel", "guarded", "(LAtomicRuntimeModel$Task;III)I"⟩, 22), (⟨"AtomicRuntimeModel", "reading", "(LAtomicRuntimeModel$Task;IJ)I"⟩, 22), (⟨"AtomicRuntimeModel", "aborted", "(LAtomicRuntimeModel$Task;)I"⟩, 22), (⟨"AtomicRuntimeModel$Task", "restore", "(I)V"⟩, 18), (⟨"AtomicRuntimeModel", "valid", "(LAtomicRuntimeModel$Task;)Z"⟩, 22), (⟨"AtomicRuntimeModel", "committed", "(LAtomicRuntimeModel$Task;)I"⟩, 22), (⟨"AtomicRuntimeModel", "retried", "(LAtomicRuntimeModel$Task;)I"⟩, 22), (⟨"AtomicRuntimeModel", "thrownUp", "(LAtomicRuntimeModel$Task;I)I"⟩, 22), (⟨"AtomicRuntimeModel", "outer", "(LAtomicRuntimeModel$Task;III)I"⟩, 22)]
theorem lw_r5 : ∀ q ∈ lw_privs_5, lw_okq q := List.forall_mem_cons.mpr ⟨lw_p64, List.forall_mem_cons.mpr ⟨lw_p65, List.forall_mem_cons.mpr ⟨lw_p66, List.forall_mem_cons.mpr ⟨lw_p67, List.forall_mem_cons.mpr ⟨lw_p68, List.forall_mem_cons.mpr ⟨lw_p69, List.forall_mem_cons.mpr ⟨lw_p70, List.forall_mem_cons.mpr ⟨lw_p71, List.forall_mem_cons.mpr ⟨lw_p72, List.forall_mem_cons.mpr ⟨lw_p73, List.forall_mem_cons.mpr ⟨lw_p74, List.forall_mem_cons.mpr ⟨lw_p75, fun _ h => absurd h List.not_mem_nil⟩⟩⟩⟩⟩⟩⟩⟩⟩⟩⟩⟩
def lw_privs : List (MethodName × Nat) := lw_privs_1 ++ (lw_privs_2 ++ (lw_privs_3 ++ (lw_privs_4 ++ (lw_privs_5))))
def lw_tbl : List Cond := k2_sels lw_privs ++ tables_1
theorem lw_privs_ok : ∀ q ∈ lw_privs, lw_okq q := by
  show ∀ q ∈ lw_privs_1 ++ (lw_privs_2 ++ (lw_privs_3 ++ (lw_privs_4 ++ (lw_privs_5)))), lw_okq q
  exact List.forall_mem_append.mpr ⟨lw_r1, List.forall_mem_append.mpr ⟨lw_r2, List.forall_mem_append.mpr ⟨lw_r3, List.forall_mem_append.mpr ⟨lw_r4, lw_r5⟩⟩⟩⟩
end
section
def RX0 : String := "AtomicRuntime$1"
def TX0 : u_T := fun k => match k with
  | _ => ("", "", "", false)
def tyX0 : Nat → FieldType := fun k => match k with
  | _ => .int
theorem nmX0 : ∀ a, a < 0 → ∀ b, b < 0 → a ≠ b → (TX0 a).2.1 ≠ (TX0 b).2.1 := by decide +kernel
theorem tyX0_ok : ∀ k, k < 0 → parseFieldDescriptor (TX0 k).2.2.1 = some (tyX0 k) := by decide +kernel
def RX1 : String := "AtomicRuntime$Heap"
def TX1 : u_T := fun k => match k with
  | 0 => ("AtomicRuntime$Heap", "sorts", "[I", true)
  | 1 => ("AtomicRuntime$Heap", "firsts", "[J", true)
  | 2 => ("AtomicRuntime$Heap", "seconds", "[J", true)
  | 3 => ("AtomicRuntime$Heap", "reached", "[I", true)
  | 4 => ("AtomicRuntime$Heap", "targets", "[I", true)
  | 5 => ("AtomicRuntime$Heap", "used", "I", false)
  | _ => ("AtomicRuntime$Heap", "reachedCount", "I", false)
def tyX1 : Nat → FieldType := fun k => match k with
  | 0 => .array .int
  | 1 => .array .long
  | 2 => .array .long
  | 3 => .array .int
  | 4 => .array .int
  | 5 => .int
  | _ => .int
theorem nmX1 : ∀ a, a < 7 → ∀ b, b < 7 → a ≠ b → (TX1 a).2.1 ≠ (TX1 b).2.1 := by decide +kernel
theorem tyX1_ok : ∀ k, k < 7 → parseFieldDescriptor (TX1 k).2.2.1 = some (tyX1 k) := by decide +kernel
abbrev cX1_init : ByteArray := prog_3_method_1_code
def yX1_init : MethodName := ⟨RX1, "<init>", "()V"⟩
abbrev cX1_newPair : ByteArray := prog_3_method_2_code
def yX1_newPair : MethodName := ⟨RX1, "newPair", "(JJ)J"⟩
abbrev cX1_newVar : ByteArray := prog_3_method_3_code
def yX1_newVar : MethodName := ⟨RX1, "newVar", "(J)J"⟩
abbrev cX1_fillNext : ByteArray := prog_3_method_4_code
def yX1_fillNext : MethodName := ⟨RX1, "fillNext", "(IJJ)I"⟩
abbrev cX1_assign : ByteArray := prog_3_method_5_code
def yX1_assign : MethodName := ⟨RX1, "assign", "(IJI)V"⟩
abbrev cX1_beginMarking : ByteArray := prog_3_method_6_code
def yX1_beginMarking : MethodName := ⟨RX1, "beginMarking", "()V"⟩
abbrev cX1_reachRow : ByteArray := prog_3_method_7_code
def yX1_reachRow : MethodName := ⟨RX1, "reachRow", "([JI)V"⟩
abbrev cX1_reachPlaces : ByteArray := prog_3_method_8_code
def yX1_reachPlaces : MethodName := ⟨RX1, "reachPlaces", "([II)V"⟩
abbrev cX1_reach : ByteArray := prog_3_method_9_code
def yX1_reach : MethodName := ⟨RX1, "reach", "(J)V"⟩
abbrev cX1_reachOnward : ByteArray := prog_3_method_10_code
def yX1_reachOnward : MethodName := ⟨RX1, "reachOnward", "()V"⟩
abbrev cX1_slide : ByteArray := prog_3_method_11_code
def yX1_slide : MethodName := ⟨RX1, "slide", "()V"⟩
abbrev cX1_followRow : ByteArray := prog_3_method_12_code
def yX1_followRow : MethodName := ⟨RX1, "followRow", "([JI)V"⟩
abbrev cX1_followPlaces : ByteArray := prog_3_method_13_code
def yX1_followPlaces : MethodName := ⟨RX1, "followPlaces", "([II)V"⟩
def RX2 : String := "AtomicRuntime$Instruction"
def TX2 : u_T := fun k => match k with
  | 0 => ("AtomicRuntime$Instruction", "number", "I", true)
  | 1 => ("AtomicRuntime$Instruction", "a", "I", true)
  | 2 => ("AtomicRuntime$Instruction", "b", "I", true)
  | _ => ("AtomicRuntime$Instruction", "c", "I", true)
def tyX2 : Nat → FieldType := fun k => match k with
  | 0 => .int
  | 1 => .int
  | 2 => .int
  | _ => .int
theorem nmX2 : ∀ a, a < 4 → ∀ b, b < 4 → a ≠ b → (TX2 a).2.1 ≠ (TX2 b).2.1 := by decide +kernel
theorem tyX2_ok : ∀ k, k < 4 → parseFieldDescriptor (TX2 k).2.2.1 = some (tyX2 k) := by decide +kernel
abbrev cX2_init : ByteArray := prog_4_method_1_code
def yX2_init : MethodName := ⟨RX2, "<init>", "(IIII)V"⟩
def RX3 : String := "AtomicRuntime$Log"
def TX3 : u_T := fun k => match k with
  | 0 => ("AtomicRuntime$Log", "readPlaces", "[I", true)
  | 1 => ("AtomicRuntime$Log", "writePlaces", "[I", true)
  | 2 => ("AtomicRuntime$Log", "writeValues", "[J", true)
  | 3 => ("AtomicRuntime$Log", "reads", "I", false)
  | 4 => ("AtomicRuntime$Log", "writes", "I", false)
  | _ => ("AtomicRuntime$Log", "start", "I", false)
def tyX3 : Nat → FieldType := fun k => match k with
  | 0 => .array .int
  | 1 => .array .int
  | 2 => .array .long
  | 3 => .int
  | 4 => .int
  | _ => .int
theorem nmX3 : ∀ a, a < 6 → ∀ b, b < 6 → a ≠ b → (TX3 a).2.1 ≠ (TX3 b).2.1 := by decide +kernel
theorem tyX3_ok : ∀ k, k < 6 → parseFieldDescriptor (TX3 k).2.2.1 = some (tyX3 k) := by decide +kernel
abbrev cX3_init : ByteArray := prog_5_method_1_code
def yX3_init : MethodName := ⟨RX3, "<init>", "()V"⟩
abbrev cX3_begin : ByteArray := prog_5_method_2_code
def yX3_begin : MethodName := ⟨RX3, "begin", "(I)V"⟩
abbrev cX3_clear : ByteArray := prog_5_method_3_code
def yX3_clear : MethodName := ⟨RX3, "clear", "()V"⟩
abbrev cX3_isValid : ByteArray := prog_5_method_4_code
def yX3_isValid : MethodName := ⟨RX3, "isValid", "(LAtomicRuntime$Heap;)Z"⟩
abbrev cX3_hasRead : ByteArray := prog_5_method_5_code
def yX3_hasRead : MethodName := ⟨RX3, "hasRead", "(I)Z"⟩
abbrev cX3_lastWriteOf : ByteArray := prog_5_method_6_code
def yX3_lastWriteOf : MethodName := ⟨RX3, "lastWriteOf", "(I)I"⟩
abbrev cX3_addRead : ByteArray := prog_5_method_7_code
def yX3_addRead : MethodName := ⟨RX3, "addRead", "(I)V"⟩
abbrev cX3_addWrite : ByteArray := prog_5_method_8_code
def yX3_addWrite : MethodName := ⟨RX3, "addWrite", "(IJ)V"⟩
abbrev cX3_readsOneThatIsIn : ByteArray := prog_5_method_9_code
def yX3_readsOneThatIsIn : MethodName := ⟨RX3, "readsOneThatIsIn", "(LAtomicRuntime$Log;)Z"⟩
def RX4 : String := "AtomicRuntime$Op"
def TX4 : u_T := fun k => match k with
  | _ => ("", "", "", false)
def tyX4 : Nat → FieldType := fun k => match k with
  | _ => .int
theorem nmX4 : ∀ a, a < 0 → ∀ b, b < 0 → a ≠ b → (TX4 a).2.1 ≠ (TX4 b).2.1 := by decide +kernel
theorem tyX4_ok : ∀ k, k < 0 → parseFieldDescriptor (TX4 k).2.2.1 = some (tyX4 k) := by decide +kernel
def RX5 : String := "AtomicRuntime$Printout"
def TX5 : u_T := fun k => match k with
  | 0 => ("AtomicRuntime$Printout", "numbers", "[I", true)
  | 1 => ("AtomicRuntime$Printout", "oldest", "I", false)
  | _ => ("AtomicRuntime$Printout", "kept", "I", false)
def tyX5 : Nat → FieldType := fun k => match k with
  | 0 => .array .int
  | 1 => .int
  | _ => .int
theorem nmX5 : ∀ a, a < 3 → ∀ b, b < 3 → a ≠ b → (TX5 a).2.1 ≠ (TX5 b).2.1 := by decide +kernel
theorem tyX5_ok : ∀ k, k < 3 → parseFieldDescriptor (TX5 k).2.2.1 = some (tyX5 k) := by decide +kernel
abbrev cX5_init : ByteArray := prog_7_method_1_code
def yX5_init : MethodName := ⟨RX5, "<init>", "()V"⟩
abbrev cX5_append : ByteArray := prog_7_method_2_code
def yX5_append : MethodName := ⟨RX5, "append", "(I)V"⟩
abbrev cX5_numberAt : ByteArray := prog_7_method_3_code
def yX5_numberAt : MethodName := ⟨RX5, "numberAt", "(I)I"⟩
def RX6 : String := "AtomicRuntime$Strand"
def TX6 : u_T := fun k => match k with
  | 0 => ("AtomicRuntime$Strand", "registers", "[J", true)
  | 1 => ("AtomicRuntime$Strand", "returns", "[I", true)
  | 2 => ("AtomicRuntime$Strand", "nestSorts", "[I", true)
  | 3 => ("AtomicRuntime$Strand", "nestAlts", "[I", true)
  | 4 => ("AtomicRuntime$Strand", "nestCalls", "[I", true)
  | 5 => ("AtomicRuntime$Strand", "nestWrites", "[I", true)
  | 6 => ("AtomicRuntime$Strand", "nestRegisters", "[J", true)
  | 7 => ("AtomicRuntime$Strand", "log", "LAtomicRuntime$Log;", true)
  | 8 => ("AtomicRuntime$Strand", "state", "I", false)
  | 9 => ("AtomicRuntime$Strand", "code", "I", false)
  | 10 => ("AtomicRuntime$Strand", "pc", "I", false)
  | 11 => ("AtomicRuntime$Strand", "calls", "I", false)
  | 12 => ("AtomicRuntime$Strand", "nests", "I", false)
  | _ => ("AtomicRuntime$Strand", "atomic", "I", false)
def tyX6 : Nat → FieldType := fun k => match k with
  | 0 => .array .long
  | 1 => .array .int
  | 2 => .array .int
  | 3 => .array .int
  | 4 => .array .int
  | 5 => .array .int
  | 6 => .array .long
  | 7 => .object "AtomicRuntime$Log"
  | 8 => .int
  | 9 => .int
  | 10 => .int
  | 11 => .int
  | 12 => .int
  | _ => .int
theorem nmX6 : ∀ a, a < 14 → ∀ b, b < 14 → a ≠ b → (TX6 a).2.1 ≠ (TX6 b).2.1 := by decide +kernel
theorem tyX6_ok : ∀ k, k < 14 → parseFieldDescriptor (TX6 k).2.2.1 = some (tyX6 k) := by decide +kernel
abbrev cX6_init : ByteArray := prog_8_method_1_code
def yX6_init : MethodName := ⟨RX6, "<init>", "(I)V"⟩
abbrev cX6_isInTransaction : ByteArray := prog_8_method_2_code
def yX6_isInTransaction : MethodName := ⟨RX6, "isInTransaction", "()Z"⟩
abbrev cX6_callsOfInnermostNest : ByteArray := prog_8_method_3_code
def yX6_callsOfInnermostNest : MethodName := ⟨RX6, "callsOfInnermostNest", "()I"⟩
abbrev cX6_enter : ByteArray := prog_8_method_4_code
def yX6_enter : MethodName := ⟨RX6, "enter", "(I)V"⟩
abbrev cX6_leave : ByteArray := prog_8_method_5_code
def yX6_leave : MethodName := ⟨RX6, "leave", "()V"⟩
abbrev cX6_openNest : ByteArray := prog_8_method_6_code
def yX6_openNest : MethodName := ⟨RX6, "openNest", "(II)V"⟩
abbrev cX6_dropNestsTo : ByteArray := prog_8_method_7_code
def yX6_dropNestsTo : MethodName := ⟨RX6, "dropNestsTo", "(I)V"⟩
abbrev cX6_restore : ByteArray := prog_8_method_8_code
def yX6_restore : MethodName := ⟨RX6, "restore", "(I)V"⟩
abbrev cX6_rollBackTo : ByteArray := prog_8_method_9_code
def yX6_rollBackTo : MethodName := ⟨RX6, "rollBackTo", "(I)V"⟩
abbrev cX6_beginAgain : ByteArray := prog_8_method_10_code
def yX6_beginAgain : MethodName := ⟨RX6, "beginAgain", "(I)V"⟩
abbrev cX6_fail : ByteArray := prog_8_method_11_code
def yX6_fail : MethodName := ⟨RX6, "fail", "(I)V"⟩
abbrev cX6_registersKept : ByteArray := prog_8_method_12_code
def yX6_registersKept : MethodName := ⟨RX6, "registersKept", "()I"⟩
abbrev cX6_forgetPlacesFrom : ByteArray := prog_8_method_13_code
def yX6_forgetPlacesFrom : MethodName := ⟨RX6, "forgetPlacesFrom", "(I)V"⟩
def RX7 : String := "AtomicRuntime"
def TX7 : u_T := fun k => match k with
  | 0 => ("AtomicRuntime", "program", "Ljava/util/ArrayList;", true)
  | 1 => ("AtomicRuntime", "strands", "Ljava/util/ArrayList;", true)
  | 2 => ("AtomicRuntime", "globals", "[J", true)
  | 3 => ("AtomicRuntime", "heap", "LAtomicRuntime$Heap;", true)
  | 4 => ("AtomicRuntime", "printout", "LAtomicRuntime$Printout;", true)
  | 5 => ("AtomicRuntime", "clock", "I", false)
  | 6 => ("AtomicRuntime", "aborts", "I", false)
  | 7 => ("AtomicRuntime", "collections", "I", false)
  | _ => ("AtomicRuntime", "steps", "I", false)
def tyX7 : Nat → FieldType := fun k => match k with
  | 0 => .object "java/util/ArrayList"
  | 1 => .object "java/util/ArrayList"
  | 2 => .array .long
  | 3 => .object "AtomicRuntime$Heap"
  | 4 => .object "AtomicRuntime$Printout"
  | 5 => .int
  | 6 => .int
  | 7 => .int
  | _ => .int
theorem nmX7 : ∀ a, a < 9 → ∀ b, b < 9 → a ≠ b → (TX7 a).2.1 ≠ (TX7 b).2.1 := by decide +kernel
theorem tyX7_ok : ∀ k, k < 9 → parseFieldDescriptor (TX7 k).2.2.1 = some (tyX7 k) := by decide +kernel
abbrev cX7_init : ByteArray := prog_1_method_1_code
def yX7_init : MethodName := ⟨RX7, "<init>", "()V"⟩
abbrev cX7_put : ByteArray := prog_1_method_2_code
def yX7_put : MethodName := ⟨RX7, "put", "(IIII)I"⟩
abbrev cX7_run : ByteArray := prog_1_method_3_code
def yX7_run : MethodName := ⟨RX7, "run", "(II)I"⟩
abbrev cX7_turn : ByteArray := prog_1_method_4_code
def yX7_turn : MethodName := ⟨RX7, "turn", "(I)I"⟩
abbrev cX7_thread : ByteArray := prog_1_method_5_code
def yX7_thread : MethodName := ⟨RX7, "thread", "(II)I"⟩
abbrev cX7_register : ByteArray := prog_1_method_6_code
def yX7_register : MethodName := ⟨RX7, "register", "(II)J"⟩
abbrev cX7_global : ByteArray := prog_1_method_7_code
def yX7_global : MethodName := ⟨RX7, "global", "(I)J"⟩
abbrev cX7_place : ByteArray := prog_1_method_8_code
def yX7_place : MethodName := ⟨RX7, "place", "(II)J"⟩
abbrev cX7_output : ByteArray := prog_1_method_9_code
def yX7_output : MethodName := ⟨RX7, "output", "(I)I"⟩
abbrev cX7_collect : ByteArray := prog_1_method_10_code
def yX7_collect : MethodName := ⟨RX7, "collect", "()I"⟩
abbrev cX7_count : ByteArray := prog_1_method_11_code
def yX7_count : MethodName := ⟨RX7, "count", "(I)I"⟩
abbrev cX7_isDeadlocked : ByteArray := prog_1_method_12_code
def yX7_isDeadlocked : MethodName := ⟨RX7, "isDeadlocked", "()Z"⟩
abbrev cX7_sortOf : ByteArray := prog_1_method_13_code
def yX7_sortOf : MethodName := ⟨RX7, "sortOf", "(J)I"⟩
abbrev cX7_placeOf : ByteArray := prog_1_method_14_code
def yX7_placeOf : MethodName := ⟨RX7, "placeOf", "(J)I"⟩
abbrev cX7_step : ByteArray := prog_1_method_15_code
def yX7_step : MethodName := ⟨RX7, "step", "(LAtomicRuntime$Strand;)V"⟩
abbrev cX7_perform : ByteArray := prog_1_method_16_code
def yX7_perform : MethodName := ⟨RX7, "perform", "(LAtomicRuntime$Strand;LAtomicRuntime$Instruction;)I"⟩
abbrev cX7_faultBefore : ByteArray := prog_1_method_17_code
def yX7_faultBefore : MethodName := ⟨RX7, "faultBefore", "(LAtomicRuntime$Strand;LAtomicRuntime$Instruction;)I"⟩
abbrev cX7_operandsFit : ByteArray := prog_1_method_18_code
def yX7_operandsFit : MethodName := ⟨RX7, "operandsFit", "(LAtomicRuntime$Strand;LAtomicRuntime$Op;LAtomicRuntime$Instruction;)Z"⟩
abbrev cX7_operandFits : ByteArray := prog_1_method_19_code
def yX7_operandFits : MethodName := ⟨RX7, "operandFits", "(LAtomicRuntime$Strand;CI)Z"⟩
abbrev cX7_nestsFit : ByteArray := prog_1_method_20_code
def yX7_nestsFit : MethodName := ⟨RX7, "nestsFit", "(LAtomicRuntime$Strand;LAtomicRuntime$Op;)Z"⟩
abbrev cX7_callsFit : ByteArray := prog_1_method_21_code
def yX7_callsFit : MethodName := ⟨RX7, "callsFit", "(LAtomicRuntime$Strand;LAtomicRuntime$Op;)Z"⟩
abbrev cX7_performPlainly : ByteArray := prog_1_method_22_code
def yX7_performPlainly : MethodName := ⟨RX7, "performPlainly", "(LAtomicRuntime$Strand;LAtomicRuntime$Op;LAtomicRuntime$Instruction;)V"⟩
abbrev cX7_openOrEnd : ByteArray := prog_1_method_23_code
def yX7_openOrEnd : MethodName := ⟨RX7, "openOrEnd", "(LAtomicRuntime$Strand;LAtomicRuntime$Op;I)V"⟩
abbrev cX7_fork : ByteArray := prog_1_method_24_code
def yX7_fork : MethodName := ⟨RX7, "fork", "(LAtomicRuntime$Strand;II)V"⟩
abbrev cX7_readVar : ByteArray := prog_1_method_25_code
def yX7_readVar : MethodName := ⟨RX7, "readVar", "(LAtomicRuntime$Strand;II)I"⟩
abbrev cX7_writeVar : ByteArray := prog_1_method_26_code
def yX7_writeVar : MethodName := ⟨RX7, "writeVar", "(LAtomicRuntime$Strand;II)I"⟩
abbrev cX7_abort : ByteArray := prog_1_method_27_code
def yX7_abort : MethodName := ⟨RX7, "abort", "(LAtomicRuntime$Strand;)V"⟩
abbrev cX7_commit : ByteArray := prog_1_method_28_code
def yX7_commit : MethodName := ⟨RX7, "commit", "(LAtomicRuntime$Strand;)V"⟩
abbrev cX7_wakeReadersOf : ByteArray := prog_1_method_29_code
def yX7_wakeReadersOf : MethodName := ⟨RX7, "wakeReadersOf", "(LAtomicRuntime$Log;)V"⟩
abbrev cX7_retry : ByteArray := prog_1_method_30_code
def yX7_retry : MethodName := ⟨RX7, "retry", "(LAtomicRuntime$Strand;)V"⟩
abbrev cX7_raise : ByteArray := prog_1_method_31_code
def yX7_raise : MethodName := ⟨RX7, "raise", "(LAtomicRuntime$Strand;I)V"⟩
abbrev cX7_markAndSlide : ByteArray := prog_1_method_32_code
def yX7_markAndSlide : MethodName := ⟨RX7, "markAndSlide", "()V"⟩
abbrev cX7_reachFrom : ByteArray := prog_1_method_33_code
def yX7_reachFrom : MethodName := ⟨RX7, "reachFrom", "(LAtomicRuntime$Strand;)V"⟩
abbrev cX7_followIn : ByteArray := prog_1_method_34_code
def yX7_followIn : MethodName := ⟨RX7, "followIn", "(LAtomicRuntime$Strand;)V"⟩
def RX8 : String := "AtomicRuntimeModel$Task"
def TX8 : u_T := fun k => match k with
  | 0 => ("AtomicRuntimeModel$Task", "state", "I", false)
  | 1 => ("AtomicRuntimeModel$Task", "code", "I", false)
  | 2 => ("AtomicRuntimeModel$Task", "pc", "I", false)
  | 3 => ("AtomicRuntimeModel$Task", "calls", "I", false)
  | 4 => ("AtomicRuntimeModel$Task", "nests", "I", false)
  | 5 => ("AtomicRuntimeModel$Task", "reads", "I", false)
  | 6 => ("AtomicRuntimeModel$Task", "writes", "I", false)
  | 7 => ("AtomicRuntimeModel$Task", "start", "I", false)
  | 8 => ("AtomicRuntimeModel$Task", "register", "[J", true)
  | 9 => ("AtomicRuntimeModel$Task", "saved", "[J", true)
  | 10 => ("AtomicRuntimeModel$Task", "back", "[I", true)
  | 11 => ("AtomicRuntimeModel$Task", "sort", "[I", true)
  | 12 => ("AtomicRuntimeModel$Task", "alt", "[I", true)
  | 13 => ("AtomicRuntimeModel$Task", "callsThen", "[I", true)
  | 14 => ("AtomicRuntimeModel$Task", "writesThen", "[I", true)
  | 15 => ("AtomicRuntimeModel$Task", "read", "[J", true)
  | 16 => ("AtomicRuntimeModel$Task", "written", "[J", true)
  | _ => ("AtomicRuntimeModel$Task", "value", "[J", true)
def tyX8 : Nat → FieldType := fun k => match k with
  | 0 => .int
  | 1 => .int
  | 2 => .int
  | 3 => .int
  | 4 => .int
  | 5 => .int
  | 6 => .int
  | 7 => .int
  | 8 => .array .long
  | 9 => .array .long
  | 10 => .array .int
  | 11 => .array .int
  | 12 => .array .int
  | 13 => .array .int
  | 14 => .array .int
  | 15 => .array .long
  | 16 => .array .long
  | _ => .array .long
theorem nmX8 : ∀ a, a < 18 → ∀ b, b < 18 → a ≠ b → (TX8 a).2.1 ≠ (TX8 b).2.1 := by decide +kernel
theorem tyX8_ok : ∀ k, k < 18 → parseFieldDescriptor (TX8 k).2.2.1 = some (tyX8 k) := by decide +kernel
abbrev cX8_init : ByteArray := prog_11_method_1_code
def yX8_init : MethodName := ⟨RX8, "<init>", "()V"⟩
abbrev cX8_atomic : ByteArray := prog_11_method_2_code
def yX8_atomic : MethodName := ⟨RX8, "atomic", "()I"⟩
abbrev cX8_nest : ByteArray := prog_11_method_3_code
def yX8_nest : MethodName := ⟨RX8, "nest", "(II)V"⟩
abbrev cX8_restore : ByteArray := prog_11_method_4_code
def yX8_restore : MethodName := ⟨RX8, "restore", "(I)V"⟩
abbrev cX8_rollBack : ByteArray := prog_11_method_5_code
def yX8_rollBack : MethodName := ⟨RX8, "rollBack", "(I)V"⟩
abbrev cX8_again : ByteArray := prog_11_method_6_code
def yX8_again : MethodName := ⟨RX8, "again", "(I)V"⟩
abbrev cX8_end : ByteArray := prog_11_method_7_code
def yX8_end : MethodName := ⟨RX8, "end", "(II)V"⟩
abbrev cX8_hasRead : ByteArray := prog_11_method_8_code
def yX8_hasRead : MethodName := ⟨RX8, "hasRead", "(J)Z"⟩
def RX9 : String := "AtomicRuntimeModel"
def TX9 : u_T := fun k => match k with
  | 0 => ("AtomicRuntimeModel", "thrown", "I", false)
  | 1 => ("AtomicRuntimeModel", "size", "I", false)
  | 2 => ("AtomicRuntimeModel", "tasks", "I", false)
  | 3 => ("AtomicRuntimeModel", "used", "I", false)
  | 4 => ("AtomicRuntimeModel", "clock", "I", false)
  | 5 => ("AtomicRuntimeModel", "aborts", "I", false)
  | 6 => ("AtomicRuntimeModel", "collections", "I", false)
  | 7 => ("AtomicRuntimeModel", "steps", "I", false)
  | 8 => ("AtomicRuntimeModel", "printed", "I", false)
  | 9 => ("AtomicRuntimeModel", "op", "[I", true)
  | 10 => ("AtomicRuntimeModel", "a", "[I", true)
  | 11 => ("AtomicRuntimeModel", "b", "[I", true)
  | 12 => ("AtomicRuntimeModel", "c", "[I", true)
  | 13 => ("AtomicRuntimeModel", "task", "[LAtomicRuntimeModel$Task;", true)
  | 14 => ("AtomicRuntimeModel", "global", "[J", true)
  | 15 => ("AtomicRuntimeModel", "first", "[J", true)
  | 16 => ("AtomicRuntimeModel", "second", "[J", true)
  | 17 => ("AtomicRuntimeModel", "pair", "[Z", true)
  | 18 => ("AtomicRuntimeModel", "kept", "[Z", true)
  | 19 => ("AtomicRuntimeModel", "version", "[I", true)
  | 20 => ("AtomicRuntimeModel", "to", "[I", true)
  | _ => ("AtomicRuntimeModel", "output", "[I", true)
def tyX9 : Nat → FieldType := fun k => match k with
  | 0 => .int
  | 1 => .int
  | 2 => .int
  | 3 => .int
  | 4 => .int
  | 5 => .int
  | 6 => .int
  | 7 => .int
  | 8 => .int
  | 9 => .array .int
  | 10 => .array .int
  | 11 => .array .int
  | 12 => .array .int
  | 13 => .array (.object "AtomicRuntimeModel$Task")
  | 14 => .array .long
  | 15 => .array .long
  | 16 => .array .long
  | 17 => .array .boolean
  | 18 => .array .boolean
  | 19 => .array .int
  | 20 => .array .int
  | _ => .array .int
theorem nmX9 : ∀ a, a < 22 → ∀ b, b < 22 → a ≠ b → (TX9 a).2.1 ≠ (TX9 b).2.1 := by decide +kernel
theorem tyX9_ok : ∀ k, k < 22 → parseFieldDescriptor (TX9 k).2.2.1 = some (tyX9 k) := by decide +kernel
abbrev cX9_init : ByteArray := prog_10_method_1_code
def yX9_init : MethodName := ⟨RX9, "<init>", "()V"⟩
abbrev cX9_thrown : ByteArray := prog_10_method_2_code
def yX9_thrown : MethodName := ⟨RX9, "thrown", "()I"⟩
abbrev cX9_fail : ByteArray := prog_10_method_3_code
def yX9_fail : MethodName := ⟨RX9, "fail", "(I)I"⟩
abbrev cX9_isInt : ByteArray := prog_10_method_4_code
def yX9_isInt : MethodName := ⟨RX9, "isInt", "(J)Z"⟩
abbrev cX9_isPair : ByteArray := prog_10_method_5_code
def yX9_isPair : MethodName := ⟨RX9, "isPair", "(J)Z"⟩
abbrev cX9_isVar : ByteArray := prog_10_method_6_code
def yX9_isVar : MethodName := ⟨RX9, "isVar", "(J)Z"⟩
abbrev cX9_place : ByteArray := prog_10_method_7_code
def yX9_place : MethodName := ⟨RX9, "place", "(J)I"⟩
abbrev cX9_noRegister : ByteArray := prog_10_method_8_code
def yX9_noRegister : MethodName := ⟨RX9, "noRegister", "(I)Z"⟩
abbrev cX9_noGlobal : ByteArray := prog_10_method_9_code
def yX9_noGlobal : MethodName := ⟨RX9, "noGlobal", "(I)Z"⟩
abbrev cX9_step : ByteArray := prog_10_method_10_code
def yX9_step : MethodName := ⟨RX9, "step", "(LAtomicRuntimeModel$Task;)V"⟩
abbrev cX9_known : ByteArray := prog_10_method_11_code
def yX9_known : MethodName := ⟨RX9, "known", "(LAtomicRuntimeModel$Task;IIII)I"⟩
abbrev cX9_wrong : ByteArray := prog_10_method_12_code
def yX9_wrong : MethodName := ⟨RX9, "wrong", "(LAtomicRuntimeModel$Task;IIII)Z"⟩
abbrev cX9_plain : ByteArray := prog_10_method_13_code
def yX9_plain : MethodName := ⟨RX9, "plain", "(LAtomicRuntimeModel$Task;IIII)I"⟩
abbrev cX9_made : ByteArray := prog_10_method_14_code
def yX9_made : MethodName := ⟨RX9, "made", "(LAtomicRuntimeModel$Task;ZIII)I"⟩
abbrev cX9_valid : ByteArray := prog_10_method_15_code
def yX9_valid : MethodName := ⟨RX9, "valid", "(LAtomicRuntimeModel$Task;)Z"⟩
abbrev cX9_aborted : ByteArray := prog_10_method_16_code
def yX9_aborted : MethodName := ⟨RX9, "aborted", "(LAtomicRuntimeModel$Task;)I"⟩
abbrev cX9_guarded : ByteArray := prog_10_method_17_code
def yX9_guarded : MethodName := ⟨RX9, "guarded", "(LAtomicRuntimeModel$Task;III)I"⟩
abbrev cX9_reading : ByteArray := prog_10_method_18_code
def yX9_reading : MethodName := ⟨RX9, "reading", "(LAtomicRuntimeModel$Task;IJ)I"⟩
abbrev cX9_committed : ByteArray := prog_10_method_19_code
def yX9_committed : MethodName := ⟨RX9, "committed", "(LAtomicRuntimeModel$Task;)I"⟩
abbrev cX9_retried : ByteArray := prog_10_method_20_code
def yX9_retried : MethodName := ⟨RX9, "retried", "(LAtomicRuntimeModel$Task;)I"⟩
abbrev cX9_thrownUp : ByteArray := prog_10_method_21_code
def yX9_thrownUp : MethodName := ⟨RX9, "thrownUp", "(LAtomicRuntimeModel$Task;I)I"⟩
abbrev cX9_outer : ByteArray := prog_10_method_22_code
def yX9_outer : MethodName := ⟨RX9, "outer", "(LAtomicRuntimeModel$Task;III)I"⟩
abbrev cX9_reach : ByteArray := prog_10_method_23_code
def yX9_reach : MethodName := ⟨RX9, "reach", "(J)Z"⟩
abbrev cX9_reachRow : ByteArray := prog_10_method_24_code
def yX9_reachRow : MethodName := ⟨RX9, "reachRow", "([JI)Z"⟩
abbrev cX9_moved : ByteArray := prog_10_method_25_code
def yX9_moved : MethodName := ⟨RX9, "moved", "(J)J"⟩
abbrev cX9_moveRow : ByteArray := prog_10_method_26_code
def yX9_moveRow : MethodName := ⟨RX9, "moveRow", "([JI)V"⟩
abbrev cX9_gather : ByteArray := prog_10_method_27_code
def yX9_gather : MethodName := ⟨RX9, "gather", "()V"⟩
abbrev cX9_slide : ByteArray := prog_10_method_28_code
def yX9_slide : MethodName := ⟨RX9, "slide", "()V"⟩
abbrev cX9_put : ByteArray := prog_10_method_29_code
def yX9_put : MethodName := ⟨RX9, "put", "(IIII)I"⟩
abbrev cX9_noTask : ByteArray := prog_10_method_30_code
def yX9_noTask : MethodName := ⟨RX9, "noTask", "(I)Z"⟩
abbrev cX9_run : ByteArray := prog_10_method_31_code
def yX9_run : MethodName := ⟨RX9, "run", "(II)I"⟩
abbrev cX9_turn : ByteArray := prog_10_method_32_code
def yX9_turn : MethodName := ⟨RX9, "turn", "(I)I"⟩
abbrev cX9_thread : ByteArray := prog_10_method_33_code
def yX9_thread : MethodName := ⟨RX9, "thread", "(II)I"⟩
abbrev cX9_register : ByteArray := prog_10_method_34_code
def yX9_register : MethodName := ⟨RX9, "register", "(II)J"⟩
abbrev cX9_global : ByteArray := prog_10_method_35_code
def yX9_global : MethodName := ⟨RX9, "global", "(I)J"⟩
abbrev cX9_place_ : ByteArray := prog_10_method_36_code
def yX9_place_ : MethodName := ⟨RX9, "place", "(II)J"⟩
abbrev cX9_output : ByteArray := prog_10_method_37_code
def yX9_output : MethodName := ⟨RX9, "output", "(I)I"⟩
abbrev cX9_collect : ByteArray := prog_10_method_38_code
def yX9_collect : MethodName := ⟨RX9, "collect", "()I"⟩
abbrev cX9_count : ByteArray := prog_10_method_39_code
def yX9_count : MethodName := ⟨RX9, "count", "(I)I"⟩
def RJx145de : String := "java/io/Serializable"
def TJx145de : u_T := fun k => match k with
  | _ => ("", "", "", false)
def tyJx145de : Nat → FieldType := fun k => match k with
  | _ => .int
theorem nmJx145de : ∀ a, a < 0 → ∀ b, b < 0 → a ≠ b → (TJx145de a).2.1 ≠ (TJx145de b).2.1 := by decide +kernel
theorem tyJx145de_ok : ∀ k, k < 0 → parseFieldDescriptor (TJx145de k).2.2.1 = some (tyJx145de k) := by decide +kernel
def RJx9f9b0 : String := "java/lang/CharSequence"
def TJx9f9b0 : u_T := fun k => match k with
  | _ => ("", "", "", false)
def tyJx9f9b0 : Nat → FieldType := fun k => match k with
  | _ => .int
theorem nmJx9f9b0 : ∀ a, a < 0 → ∀ b, b < 0 → a ≠ b → (TJx9f9b0 a).2.1 ≠ (TJx9f9b0 b).2.1 := by decide +kernel
theorem tyJx9f9b0_ok : ∀ k, k < 0 → parseFieldDescriptor (TJx9f9b0 k).2.2.1 = some (tyJx9f9b0 k) := by decide +kernel
def RJx8e188 : String := "java/lang/Cloneable"
def TJx8e188 : u_T := fun k => match k with
  | _ => ("", "", "", false)
def tyJx8e188 : Nat → FieldType := fun k => match k with
  | _ => .int
theorem nmJx8e188 : ∀ a, a < 0 → ∀ b, b < 0 → a ≠ b → (TJx8e188 a).2.1 ≠ (TJx8e188 b).2.1 := by decide +kernel
theorem tyJx8e188_ok : ∀ k, k < 0 → parseFieldDescriptor (TJx8e188 k).2.2.1 = some (tyJx8e188 k) := by decide +kernel
def RJxb160c : String := "java/lang/Comparable"
def TJxb160c : u_T := fun k => match k with
  | _ => ("", "", "", false)
def tyJxb160c : Nat → FieldType := fun k => match k with
  | _ => .int
theorem nmJxb160c : ∀ a, a < 0 → ∀ b, b < 0 → a ≠ b → (TJxb160c a).2.1 ≠ (TJxb160c b).2.1 := by decide +kernel
theorem tyJxb160c_ok : ∀ k, k < 0 → parseFieldDescriptor (TJxb160c k).2.2.1 = some (tyJxb160c k) := by decide +kernel
def RJx29ce0 : String := "java/lang/Enum"
def TJx29ce0 : u_T := fun k => match k with
  | _ => ("", "", "", false)
def tyJx29ce0 : Nat → FieldType := fun k => match k with
  | _ => .int
theorem nmJx29ce0 : ∀ a, a < 0 → ∀ b, b < 0 → a ≠ b → (TJx29ce0 a).2.1 ≠ (TJx29ce0 b).2.1 := by decide +kernel
theorem tyJx29ce0_ok : ∀ k, k < 0 → parseFieldDescriptor (TJx29ce0 k).2.2.1 = some (tyJx29ce0 k) := by decide +kernel
abbrev cJx29ce0_ordinal_8abf5 : ByteArray := prog_16_method_2_code
def yJx29ce0_ordinal_8abf5 : MethodName := ⟨RJx29ce0, "ordinal", "()I"⟩
def RJxab1ab : String := "java/lang/Iterable"
def TJxab1ab : u_T := fun k => match k with
  | _ => ("", "", "", false)
def tyJxab1ab : Nat → FieldType := fun k => match k with
  | _ => .int
theorem nmJxab1ab : ∀ a, a < 0 → ∀ b, b < 0 → a ≠ b → (TJxab1ab a).2.1 ≠ (TJxab1ab b).2.1 := by decide +kernel
theorem tyJxab1ab_ok : ∀ k, k < 0 → parseFieldDescriptor (TJxab1ab k).2.2.1 = some (tyJxab1ab k) := by decide +kernel
def RJ9 : String := "java/lang/Math"
def TJ9 : u_T := fun k => match k with
  | _ => ("", "", "", false)
def tyJ9 : Nat → FieldType := fun k => match k with
  | _ => .int
theorem nmJ9 : ∀ a, a < 0 → ∀ b, b < 0 → a ≠ b → (TJ9 a).2.1 ≠ (TJ9 b).2.1 := by decide +kernel
theorem tyJ9_ok : ∀ k, k < 0 → parseFieldDescriptor (TJ9 k).2.2.1 = some (tyJ9 k) := by decide +kernel
abbrev cJ9_max_7cf53 : ByteArray := prog_22_method_65_code
def yJ9_max_7cf53 : MethodName := ⟨RJ9, "max", "(II)I"⟩
abbrev cJ9_min_7cf53 : ByteArray := prog_22_method_69_code
def yJ9_min_7cf53 : MethodName := ⟨RJ9, "min", "(II)I"⟩
def RJ0 : String := "java/lang/String"
def TJ0 : u_T := fun k => match k with
  | _ => ("", "", "", false)
def tyJ0 : Nat → FieldType := fun k => match k with
  | _ => .int
theorem nmJ0 : ∀ a, a < 0 → ∀ b, b < 0 → a ≠ b → (TJ0 a).2.1 ≠ (TJ0 b).2.1 := by decide +kernel
theorem tyJ0_ok : ∀ k, k < 0 → parseFieldDescriptor (TJ0 k).2.2.1 = some (tyJ0 k) := by decide +kernel
abbrev cJ0_charAt_5068e : ByteArray := prog_24_method_56_code
def yJ0_charAt_5068e : MethodName := ⟨RJ0, "charAt", "(I)C"⟩
abbrev cJ0_isLatin1_aae02 : ByteArray := prog_24_method_154_code
def yJ0_isLatin1_aae02 : MethodName := ⟨RJ0, "isLatin1", "()Z"⟩
abbrev cJ0_checkIndex_df160 : ByteArray := prog_24_method_155_code
def yJ0_checkIndex_df160 : MethodName := ⟨RJ0, "checkIndex", "(II)V"⟩
def RJ1 : String := "java/lang/StringLatin1"
def TJ1 : u_T := fun k => match k with
  | _ => ("", "", "", false)
def tyJ1 : Nat → FieldType := fun k => match k with
  | _ => .int
theorem nmJ1 : ∀ a, a < 0 → ∀ b, b < 0 → a ≠ b → (TJ1 a).2.1 ≠ (TJ1 b).2.1 := by decide +kernel
theorem tyJ1_ok : ∀ k, k < 0 → parseFieldDescriptor (TJ1 k).2.2.1 = some (tyJ1 k) := by decide +kernel
abbrev cJ1_charAt_3b067 : ByteArray := prog_25_method_2_code
def yJ1_charAt_3b067 : MethodName := ⟨RJ1, "charAt", "([BI)C"⟩
def RJ2 : String := "java/lang/StringUTF16"
def TJ2 : u_T := fun k => match k with
  | _ => ("", "", "", false)
def tyJ2 : Nat → FieldType := fun k => match k with
  | _ => .int
theorem nmJ2 : ∀ a, a < 0 → ∀ b, b < 0 → a ≠ b → (TJ2 a).2.1 ≠ (TJ2 b).2.1 := by decide +kernel
theorem tyJ2_ok : ∀ k, k < 0 → parseFieldDescriptor (TJ2 k).2.2.1 = some (tyJ2 k) := by decide +kernel
abbrev cJ2_getChar_3b067 : ByteArray := prog_26_method_5_code
def yJ2_getChar_3b067 : MethodName := ⟨RJ2, "getChar", "([BI)C"⟩
abbrev cJ2_length_9d52b : ByteArray := prog_26_method_6_code
def yJ2_length_9d52b : MethodName := ⟨RJ2, "length", "([B)I"⟩
abbrev cJ2_charAt_3b067 : ByteArray := prog_26_method_83_code
def yJ2_charAt_3b067 : MethodName := ⟨RJ2, "charAt", "([BI)C"⟩
abbrev cJ2_checkIndex_2214a : ByteArray := prog_26_method_91_code
def yJ2_checkIndex_2214a : MethodName := ⟨RJ2, "checkIndex", "(I[B)V"⟩
def RJ10 : String := "java/lang/System"
def TJ10 : u_T := fun k => match k with
  | _ => ("", "", "", false)
def tyJ10 : Nat → FieldType := fun k => match k with
  | _ => .int
theorem nmJ10 : ∀ a, a < 0 → ∀ b, b < 0 → a ≠ b → (TJ10 a).2.1 ≠ (TJ10 b).2.1 := by decide +kernel
theorem tyJ10_ok : ∀ k, k < 0 → parseFieldDescriptor (TJ10 k).2.2.1 = some (tyJ10 k) := by decide +kernel
def RJxfd54e : String := "java/lang/constant/Constable"
def TJxfd54e : u_T := fun k => match k with
  | _ => ("", "", "", false)
def tyJxfd54e : Nat → FieldType := fun k => match k with
  | _ => .int
theorem nmJxfd54e : ∀ a, a < 0 → ∀ b, b < 0 → a ≠ b → (TJxfd54e a).2.1 ≠ (TJxfd54e b).2.1 := by decide +kernel
theorem tyJxfd54e_ok : ∀ k, k < 0 → parseFieldDescriptor (TJxfd54e k).2.2.1 = some (tyJxfd54e k) := by decide +kernel
def RJx3cf43 : String := "java/lang/constant/ConstantDesc"
def TJx3cf43 : u_T := fun k => match k with
  | _ => ("", "", "", false)
def tyJx3cf43 : Nat → FieldType := fun k => match k with
  | _ => .int
theorem nmJx3cf43 : ∀ a, a < 0 → ∀ b, b < 0 → a ≠ b → (TJx3cf43 a).2.1 ≠ (TJx3cf43 b).2.1 := by decide +kernel
theorem tyJx3cf43_ok : ∀ k, k < 0 → parseFieldDescriptor (TJx3cf43 k).2.2.1 = some (tyJx3cf43 k) := by decide +kernel
def RJxa1e45 : String := "java/util/AbstractCollection"
def TJxa1e45 : u_T := fun k => match k with
  | _ => ("", "", "", false)
def tyJxa1e45 : Nat → FieldType := fun k => match k with
  | _ => .int
theorem nmJxa1e45 : ∀ a, a < 0 → ∀ b, b < 0 → a ≠ b → (TJxa1e45 a).2.1 ≠ (TJxa1e45 b).2.1 := by decide +kernel
theorem tyJxa1e45_ok : ∀ k, k < 0 → parseFieldDescriptor (TJxa1e45 k).2.2.1 = some (tyJxa1e45 k) := by decide +kernel
abbrev cJxa1e45_init_da8c8 : ByteArray := prog_31_method_1_code
def yJxa1e45_init_da8c8 : MethodName := ⟨RJxa1e45, "<init>", "()V"⟩
def RJxc12de : String := "java/util/AbstractList"
def TJxc12de : u_T := fun k => match k with
  | _ => ("", "", "", false)
def tyJxc12de : Nat → FieldType := fun k => match k with
  | _ => .int
theorem nmJxc12de : ∀ a, a < 0 → ∀ b, b < 0 → a ≠ b → (TJxc12de a).2.1 ≠ (TJxc12de b).2.1 := by decide +kernel
theorem tyJxc12de_ok : ∀ k, k < 0 → parseFieldDescriptor (TJxc12de k).2.2.1 = some (tyJxc12de k) := by decide +kernel
abbrev cJxc12de_init_da8c8 : ByteArray := prog_32_method_1_code
def yJxc12de_init_da8c8 : MethodName := ⟨RJxc12de, "<init>", "()V"⟩
def RJx4a65c : String := "java/util/ArrayList"
def TJx4a65c : u_T := fun k => match k with
  | 0 => ("java/util/AbstractList", "modCount", "I", false)
  | 1 => ("java/util/ArrayList", "elementData", "[Ljava/lang/Object;", false)
  | _ => ("java/util/ArrayList", "size", "I", false)
def tyJx4a65c : Nat → FieldType := fun k => match k with
  | 0 => .int
  | 1 => .array (.object "java/lang/Object")
  | _ => .int
theorem nmJx4a65c : ∀ a, a < 3 → ∀ b, b < 3 → a ≠ b → (TJx4a65c a).2.1 ≠ (TJx4a65c b).2.1 := by decide +kernel
theorem tyJx4a65c_ok : ∀ k, k < 3 → parseFieldDescriptor (TJx4a65c k).2.2.1 = some (tyJx4a65c k) := by decide +kernel
abbrev cJx4a65c_init_da8c8 : ByteArray := prog_33_method_2_code
def yJx4a65c_init_da8c8 : MethodName := ⟨RJx4a65c, "<init>", "()V"⟩
abbrev cJx4a65c_grow_92f84 : ByteArray := prog_33_method_6_code
def yJx4a65c_grow_92f84 : MethodName := ⟨RJx4a65c, "grow", "(I)[Ljava/lang/Object;"⟩
abbrev cJx4a65c_grow_d5877 : ByteArray := prog_33_method_7_code
def yJx4a65c_grow_d5877 : MethodName := ⟨RJx4a65c, "grow", "()[Ljava/lang/Object;"⟩
abbrev cJx4a65c_size_8abf5 : ByteArray := prog_33_method_8_code
def yJx4a65c_size_8abf5 : MethodName := ⟨RJx4a65c, "size", "()I"⟩
abbrev cJx4a65c_elementData_915e3 : ByteArray := prog_33_method_18_code
def yJx4a65c_elementData_915e3 : MethodName := ⟨RJx4a65c, "elementData", "(I)Ljava/lang/Object;"⟩
abbrev cJx4a65c_get_915e3 : ByteArray := prog_33_method_20_code
def yJx4a65c_get_915e3 : MethodName := ⟨RJx4a65c, "get", "(I)Ljava/lang/Object;"⟩
abbrev cJx4a65c_add_72be8 : ByteArray := prog_33_method_24_code
def yJx4a65c_add_72be8 : MethodName := ⟨RJx4a65c, "add", "(Ljava/lang/Object;[Ljava/lang/Object;I)V"⟩
abbrev cJx4a65c_add_9ea2d : ByteArray := prog_33_method_25_code
def yJx4a65c_add_9ea2d : MethodName := ⟨RJx4a65c, "add", "(Ljava/lang/Object;)Z"⟩
def RJ7 : String := "java/util/Arrays"
def TJ7 : u_T := fun k => match k with
  | _ => ("", "", "", false)
def tyJ7 : Nat → FieldType := fun k => match k with
  | _ => .int
theorem nmJ7 : ∀ a, a < 0 → ∀ b, b < 0 → a ≠ b → (TJ7 a).2.1 ≠ (TJ7 b).2.1 := by decide +kernel
theorem tyJ7_ok : ∀ k, k < 0 → parseFieldDescriptor (TJ7 k).2.2.1 = some (tyJ7 k) := by decide +kernel
abbrev cJ7_fill_53178 : ByteArray := prog_34_method_103_code
def yJ7_fill_53178 : MethodName := ⟨RJ7, "fill", "([II)V"⟩
abbrev cJ7_copyOf_1904c : ByteArray := prog_34_method_119_code
def yJ7_copyOf_1904c : MethodName := ⟨RJ7, "copyOf", "([Ljava/lang/Object;I)[Ljava/lang/Object;"⟩
abbrev cJ7_copyOf_6403c : ByteArray := prog_34_method_120_code
def yJ7_copyOf_6403c : MethodName := ⟨RJ7, "copyOf", "([Ljava/lang/Object;ILjava/lang/Class;)[Ljava/lang/Object;"⟩
def RJx5ef63 : String := "java/util/Collection"
def TJx5ef63 : u_T := fun k => match k with
  | _ => ("", "", "", false)
def tyJx5ef63 : Nat → FieldType := fun k => match k with
  | _ => .int
theorem nmJx5ef63 : ∀ a, a < 0 → ∀ b, b < 0 → a ≠ b → (TJx5ef63 a).2.1 ≠ (TJx5ef63 b).2.1 := by decide +kernel
theorem tyJx5ef63_ok : ∀ k, k < 0 → parseFieldDescriptor (TJx5ef63 k).2.2.1 = some (tyJx5ef63 k) := by decide +kernel
def RJxbd725 : String := "java/util/List"
def TJxbd725 : u_T := fun k => match k with
  | _ => ("", "", "", false)
def tyJxbd725 : Nat → FieldType := fun k => match k with
  | _ => .int
theorem nmJxbd725 : ∀ a, a < 0 → ∀ b, b < 0 → a ≠ b → (TJxbd725 a).2.1 ≠ (TJxbd725 b).2.1 := by decide +kernel
theorem tyJxbd725_ok : ∀ k, k < 0 → parseFieldDescriptor (TJxbd725 k).2.2.1 = some (tyJxbd725 k) := by decide +kernel
def RJ15 : String := "java/util/Objects"
def TJ15 : u_T := fun k => match k with
  | _ => ("", "", "", false)
def tyJ15 : Nat → FieldType := fun k => match k with
  | _ => .int
theorem nmJ15 : ∀ a, a < 0 → ∀ b, b < 0 → a ≠ b → (TJ15 a).2.1 ≠ (TJ15 b).2.1 := by decide +kernel
theorem tyJ15_ok : ∀ k, k < 0 → parseFieldDescriptor (TJ15 k).2.2.1 = some (tyJ15 k) := by decide +kernel
abbrev cJ15_checkIndex_7cf53 : ByteArray := prog_38_method_17_code
def yJ15_checkIndex_7cf53 : MethodName := ⟨RJ15, "checkIndex", "(II)I"⟩
def RJxf0a74 : String := "java/util/RandomAccess"
def TJxf0a74 : u_T := fun k => match k with
  | _ => ("", "", "", false)
def tyJxf0a74 : Nat → FieldType := fun k => match k with
  | _ => .int
theorem nmJxf0a74 : ∀ a, a < 0 → ∀ b, b < 0 → a ≠ b → (TJxf0a74 a).2.1 ≠ (TJxf0a74 b).2.1 := by decide +kernel
theorem tyJxf0a74_ok : ∀ k, k < 0 → parseFieldDescriptor (TJxf0a74 k).2.2.1 = some (tyJxf0a74 k) := by decide +kernel
def RJxa66e6 : String := "java/util/SequencedCollection"
def TJxa66e6 : u_T := fun k => match k with
  | _ => ("", "", "", false)
def tyJxa66e6 : Nat → FieldType := fun k => match k with
  | _ => .int
theorem nmJxa66e6 : ∀ a, a < 0 → ∀ b, b < 0 → a ≠ b → (TJxa66e6 a).2.1 ≠ (TJxa66e6 b).2.1 := by decide +kernel
theorem tyJxa66e6_ok : ∀ k, k < 0 → parseFieldDescriptor (TJxa66e6 k).2.2.1 = some (tyJxa66e6 k) := by decide +kernel
def RJ8 : String := "jdk/internal/util/ArraysSupport"
def TJ8 : u_T := fun k => match k with
  | _ => ("", "", "", false)
def tyJ8 : Nat → FieldType := fun k => match k with
  | _ => .int
theorem nmJ8 : ∀ a, a < 0 → ∀ b, b < 0 → a ≠ b → (TJ8 a).2.1 ≠ (TJ8 b).2.1 := by decide +kernel
theorem tyJ8_ok : ∀ k, k < 0 → parseFieldDescriptor (TJ8 k).2.2.1 = some (tyJ8 k) := by decide +kernel
abbrev cJ8_newLength_cabcc : ByteArray := prog_41_method_27_code
def yJ8_newLength_cabcc : MethodName := ⟨RJ8, "newLength", "(III)I"⟩
abbrev cJ8_hugeLength_7cf53 : ByteArray := prog_41_method_28_code
def yJ8_hugeLength_7cf53 : MethodName := ⟨RJ8, "hugeLength", "(II)I"⟩
def RJ3 : String := "jdk/internal/util/Preconditions"
def TJ3 : u_T := fun k => match k with
  | _ => ("", "", "", false)
def tyJ3 : Nat → FieldType := fun k => match k with
  | _ => .int
theorem nmJ3 : ∀ a, a < 0 → ∀ b, b < 0 → a ≠ b → (TJ3 a).2.1 ≠ (TJ3 b).2.1 := by decide +kernel
theorem tyJ3_ok : ∀ k, k < 0 → parseFieldDescriptor (TJ3 k).2.2.1 = some (tyJ3 k) := by decide +kernel
abbrev cJ3_checkIndex_8e157 : ByteArray := prog_42_method_11_code
def yJ3_checkIndex_8e157 : MethodName := ⟨RJ3, "checkIndex", "(IILjava/util/function/BiFunction;)I"⟩
def RL : String := "AtomicRuntimeLaw"
abbrev cL_put : ByteArray := method_3_code
def yL_put : MethodName := ⟨RL, "put", "(LAtomicRuntime;IIII[J)I"⟩
abbrev cL_run : ByteArray := method_4_code
def yL_run : MethodName := ⟨RL, "run", "(LAtomicRuntime;II[J)I"⟩
abbrev cL_turn : ByteArray := method_5_code
def yL_turn : MethodName := ⟨RL, "turn", "(LAtomicRuntime;I[J)I"⟩
abbrev cL_thread : ByteArray := method_6_code
def yL_thread : MethodName := ⟨RL, "thread", "(LAtomicRuntime;II[J)I"⟩
abbrev cL_register : ByteArray := method_7_code
def yL_register : MethodName := ⟨RL, "register", "(LAtomicRuntime;II[J)I"⟩
abbrev cL_global : ByteArray := method_8_code
def yL_global : MethodName := ⟨RL, "global", "(LAtomicRuntime;I[J)I"⟩
abbrev cL_place : ByteArray := method_9_code
def yL_place : MethodName := ⟨RL, "place", "(LAtomicRuntime;II[J)I"⟩
abbrev cL_output : ByteArray := method_10_code
def yL_output : MethodName := ⟨RL, "output", "(LAtomicRuntime;I[J)I"⟩
abbrev cL_law : ByteArray := code
def yL_law : MethodName := ⟨RL, "law", "([I)Z"⟩
abbrev vwCl : List vw_C := [(RJx4a65c, TJx4a65c, 3), (RX1, TX1, 7), (RX2, TX2, 4), (RX3, TX3, 6), (RX5, TX5, 3), (RX6, TX6, 14), (RX7, TX7, 9), (RX8, TX8, 18), (RX9, TX9, 22)]
end
section
theorem dX1_init_0 : decode cX1_init 0 = .ok (.aload_n 0, 1) := by decide +kernel
theorem dX1_init_1 : decode cX1_init 1 = .ok (.invokespecial 3, 3) := by decide +kernel
theorem dX1_init_4 : decode cX1_init 4 = .ok (.aload_n 0, 1) := by decide +kernel
theorem dX1_init_5 : decode cX1_init 5 = .ok (.sipush 200, 3) := by decide +kernel
theorem dX1_init_8 : decode cX1_init 8 = .ok (.newarray .int, 2) := by decide +kernel
theorem dX1_init_10 : decode cX1_init 10 = .ok (.putfield 9, 3) := by decide +kernel
theorem dX1_init_13 : decode cX1_init 13 = .ok (.aload_n 0, 1) := by decide +kernel
theorem dX1_init_14 : decode cX1_init 14 = .ok (.sipush 200, 3) := by decide +kernel
theorem dX1_init_17 : decode cX1_init 17 = .ok (.newarray .long, 2) := by decide +kernel
theorem dX1_init_19 : decode cX1_init 19 = .ok (.putfield 15, 3) := by decide +kernel
theorem dX1_init_22 : decode cX1_init 22 = .ok (.aload_n 0, 1) := by decide +kernel
theorem dX1_init_23 : decode cX1_init 23 = .ok (.sipush 200, 3) := by decide +kernel
theorem dX1_init_26 : decode cX1_init 26 = .ok (.newarray .long, 2) := by decide +kernel
theorem dX1_init_28 : decode cX1_init 28 = .ok (.putfield 19, 3) := by decide +kernel
theorem dX1_init_31 : decode cX1_init 31 = .ok (.aload_n 0, 1) := by decide +kernel
theorem dX1_init_32 : decode cX1_init 32 = .ok (.sipush 200, 3) := by decide +kernel
theorem dX1_init_35 : decode cX1_init 35 = .ok (.newarray .int, 2) := by decide +kernel
theorem dX1_init_37 : decode cX1_init 37 = .ok (.putfield 22, 3) := by decide +kernel
theorem dX1_init_40 : decode cX1_init 40 = .ok (.aload_n 0, 1) := by decide +kernel
theorem dX1_init_41 : decode cX1_init 41 = .ok (.sipush 200, 3) := by decide +kernel
theorem dX1_init_44 : decode cX1_init 44 = .ok (.newarray .int, 2) := by decide +kernel
theorem dX1_init_46 : decode cX1_init 46 = .ok (.putfield 25, 3) := by decide +kernel
theorem dX1_init_49 : decode cX1_init 49 = .ok (.aload_n 0, 1) := by decide +kernel
theorem dX1_init_50 : decode cX1_init 50 = .ok (.iconst 0, 1) := by decide +kernel
theorem dX1_init_51 : decode cX1_init 51 = .ok (.putfield 28, 3) := by decide +kernel
theorem dX1_init_54 : decode cX1_init 54 = .ok (.aload_n 0, 1) := by decide +kernel
theorem dX1_init_55 : decode cX1_init 55 = .ok (.iconst 0, 1) := by decide +kernel
theorem dX1_init_56 : decode cX1_init 56 = .ok (.putfield 32, 3) := by decide +kernel
theorem dX1_init_59 : decode cX1_init 59 = .ok (.return_, 1) := by decide +kernel
theorem dX1_newPair_0 : decode cX1_newPair 0 = .ok (.ldc2_w 35, 3) := by decide +kernel
theorem dX1_newPair_3 : decode cX1_newPair 3 = .ok (.aload_n 0, 1) := by decide +kernel
theorem dX1_newPair_4 : decode cX1_newPair 4 = .ok (.iconst 1, 1) := by decide +kernel
theorem dX1_newPair_5 : decode cX1_newPair 5 = .ok (.lload_n 1, 1) := by decide +kernel
theorem dX1_newPair_6 : decode cX1_newPair 6 = .ok (.lload_n 3, 1) := by decide +kernel
theorem dX1_newPair_7 : decode cX1_newPair 7 = .ok (.invokevirtual 37, 3) := by decide +kernel
theorem dX1_newPair_10 : decode cX1_newPair 10 = .ok (.i2l, 1) := by decide +kernel
theorem dX1_newPair_11 : decode cX1_newPair 11 = .ok (.ladd, 1) := by decide +kernel
theorem dX1_newPair_12 : decode cX1_newPair 12 = .ok (.lreturn, 1) := by decide +kernel
theorem dX1_newVar_0 : decode cX1_newVar 0 = .ok (.ldc2_w 41, 3) := by decide +kernel
theorem dX1_newVar_3 : decode cX1_newVar 3 = .ok (.aload_n 0, 1) := by decide +kernel
theorem dX1_newVar_4 : decode cX1_newVar 4 = .ok (.iconst 2, 1) := by decide +kernel
theorem dX1_newVar_5 : decode cX1_newVar 5 = .ok (.lload_n 1, 1) := by decide +kernel
theorem dX1_newVar_6 : decode cX1_newVar 6 = .ok (.lconst 0, 1) := by decide +kernel
theorem dX1_newVar_7 : decode cX1_newVar 7 = .ok (.invokevirtual 37, 3) := by decide +kernel
theorem dX1_newVar_10 : decode cX1_newVar 10 = .ok (.i2l, 1) := by decide +kernel
theorem dX1_newVar_11 : decode cX1_newVar 11 = .ok (.ladd, 1) := by decide +kernel
theorem dX1_newVar_12 : decode cX1_newVar 12 = .ok (.lreturn, 1) := by decide +kernel
theorem dX1_fillNext_0 : decode cX1_fillNext 0 = .ok (.aload_n 0, 1) := by decide +kernel
theorem dX1_fillNext_1 : decode cX1_fillNext 1 = .ok (.getfield 28, 3) := by decide +kernel
theorem dX1_fillNext_4 : decode cX1_fillNext 4 = .ok (.istore 6, 2) := by decide +kernel
theorem dX1_fillNext_6 : decode cX1_fillNext 6 = .ok (.aload_n 0, 1) := by decide +kernel
theorem dX1_fillNext_7 : decode cX1_fillNext 7 = .ok (.getfield 9, 3) := by decide +kernel
theorem dX1_fillNext_10 : decode cX1_fillNext 10 = .ok (.iload 6, 2) := by decide +kernel
theorem dX1_fillNext_12 : decode cX1_fillNext 12 = .ok (.iload_n 1, 1) := by decide +kernel
theorem dX1_fillNext_13 : decode cX1_fillNext 13 = .ok (.iastore, 1) := by decide +kernel
theorem dX1_fillNext_14 : decode cX1_fillNext 14 = .ok (.aload_n 0, 1) := by decide +kernel
theorem dX1_fillNext_15 : decode cX1_fillNext 15 = .ok (.getfield 15, 3) := by decide +kernel
theorem dX1_fillNext_18 : decode cX1_fillNext 18 = .ok (.iload 6, 2) := by decide +kernel
theorem dX1_fillNext_20 : decode cX1_fillNext 20 = .ok (.lload_n 2, 1) := by decide +kernel
theorem dX1_fillNext_21 : decode cX1_fillNext 21 = .ok (.lastore, 1) := by decide +kernel
theorem dX1_fillNext_22 : decode cX1_fillNext 22 = .ok (.aload_n 0, 1) := by decide +kernel
theorem dX1_fillNext_23 : decode cX1_fillNext 23 = .ok (.getfield 19, 3) := by decide +kernel
theorem dX1_fillNext_26 : decode cX1_fillNext 26 = .ok (.iload 6, 2) := by decide +kernel
theorem dX1_fillNext_28 : decode cX1_fillNext 28 = .ok (.lload 4, 2) := by decide +kernel
theorem dX1_fillNext_30 : decode cX1_fillNext 30 = .ok (.lastore, 1) := by decide +kernel
theorem dX1_fillNext_31 : decode cX1_fillNext 31 = .ok (.aload_n 0, 1) := by decide +kernel
theorem dX1_fillNext_32 : decode cX1_fillNext 32 = .ok (.dup, 1) := by decide +kernel
theorem dX1_fillNext_33 : decode cX1_fillNext 33 = .ok (.getfield 28, 3) := by decide +kernel
theorem dX1_fillNext_36 : decode cX1_fillNext 36 = .ok (.iconst 1, 1) := by decide +kernel
theorem dX1_fillNext_37 : decode cX1_fillNext 37 = .ok (.iadd, 1) := by decide +kernel
theorem dX1_fillNext_38 : decode cX1_fillNext 38 = .ok (.putfield 28, 3) := by decide +kernel
theorem dX1_fillNext_41 : decode cX1_fillNext 41 = .ok (.iload 6, 2) := by decide +kernel
theorem dX1_fillNext_43 : decode cX1_fillNext 43 = .ok (.ireturn, 1) := by decide +kernel
theorem dX1_assign_0 : decode cX1_assign 0 = .ok (.aload_n 0, 1) := by decide +kernel
theorem dX1_assign_1 : decode cX1_assign 1 = .ok (.getfield 15, 3) := by decide +kernel
theorem dX1_assign_4 : decode cX1_assign 4 = .ok (.iload_n 1, 1) := by decide +kernel
theorem dX1_assign_5 : decode cX1_assign 5 = .ok (.lload_n 2, 1) := by decide +kernel
theorem dX1_assign_6 : decode cX1_assign 6 = .ok (.lastore, 1) := by decide +kernel
theorem dX1_assign_7 : decode cX1_assign 7 = .ok (.aload_n 0, 1) := by decide +kernel
theorem dX1_assign_8 : decode cX1_assign 8 = .ok (.getfield 19, 3) := by decide +kernel
theorem dX1_assign_11 : decode cX1_assign 11 = .ok (.iload_n 1, 1) := by decide +kernel
theorem dX1_assign_12 : decode cX1_assign 12 = .ok (.iload 4, 2) := by decide +kernel
theorem dX1_assign_14 : decode cX1_assign 14 = .ok (.i2l, 1) := by decide +kernel
theorem dX1_assign_15 : decode cX1_assign 15 = .ok (.lastore, 1) := by decide +kernel
theorem dX1_assign_16 : decode cX1_assign 16 = .ok (.return_, 1) := by decide +kernel
theorem dX1_beginMarking_0 : decode cX1_beginMarking 0 = .ok (.aload_n 0, 1) := by decide +kernel
theorem dX1_beginMarking_1 : decode cX1_beginMarking 1 = .ok (.getfield 25, 3) := by decide +kernel
theorem dX1_beginMarking_4 : decode cX1_beginMarking 4 = .ok (.iconst (-1), 1) := by decide +kernel
theorem dX1_beginMarking_5 : decode cX1_beginMarking 5 = .ok (.invokestatic 43, 3) := by decide +kernel
theorem dX1_beginMarking_8 : decode cX1_beginMarking 8 = .ok (.aload_n 0, 1) := by decide +kernel
theorem dX1_beginMarking_9 : decode cX1_beginMarking 9 = .ok (.iconst 0, 1) := by decide +kernel
theorem dX1_beginMarking_10 : decode cX1_beginMarking 10 = .ok (.putfield 32, 3) := by decide +kernel
theorem dX1_beginMarking_13 : decode cX1_beginMarking 13 = .ok (.return_, 1) := by decide +kernel
theorem dX1_reachRow_0 : decode cX1_reachRow 0 = .ok (.iconst 0, 1) := by decide +kernel
theorem dX1_reachRow_1 : decode cX1_reachRow 1 = .ok (.istore_n 3, 1) := by decide +kernel
theorem dX1_reachRow_2 : decode cX1_reachRow 2 = .ok (.iload_n 3, 1) := by decide +kernel
theorem dX1_reachRow_3 : decode cX1_reachRow 3 = .ok (.iload_n 2, 1) := by decide +kernel
theorem dX1_reachRow_4 : decode cX1_reachRow 4 = .ok (.if_icmp .ge 16, 3) := by decide +kernel
theorem dX1_reachRow_7 : decode cX1_reachRow 7 = .ok (.aload_n 0, 1) := by decide +kernel
theorem dX1_reachRow_8 : decode cX1_reachRow 8 = .ok (.aload_n 1, 1) := by decide +kernel
theorem dX1_reachRow_9 : decode cX1_reachRow 9 = .ok (.iload_n 3, 1) := by decide +kernel
theorem dX1_reachRow_10 : decode cX1_reachRow 10 = .ok (.laload, 1) := by decide +kernel
theorem dX1_reachRow_11 : decode cX1_reachRow 11 = .ok (.invokevirtual 49, 3) := by decide +kernel
theorem dX1_reachRow_14 : decode cX1_reachRow 14 = .ok (.iinc 3 1, 3) := by decide +kernel
theorem dX1_reachRow_17 : decode cX1_reachRow 17 = .ok (.goto (-15), 3) := by decide +kernel
theorem dX1_reachRow_20 : decode cX1_reachRow 20 = .ok (.return_, 1) := by decide +kernel
theorem dX1_reachPlaces_0 : decode cX1_reachPlaces 0 = .ok (.iconst 0, 1) := by decide +kernel
theorem dX1_reachPlaces_1 : decode cX1_reachPlaces 1 = .ok (.istore_n 3, 1) := by decide +kernel
theorem dX1_reachPlaces_2 : decode cX1_reachPlaces 2 = .ok (.iload_n 3, 1) := by decide +kernel
theorem dX1_reachPlaces_3 : decode cX1_reachPlaces 3 = .ok (.iload_n 2, 1) := by decide +kernel
theorem dX1_reachPlaces_4 : decode cX1_reachPlaces 4 = .ok (.if_icmp .ge 21, 3) := by decide +kernel
theorem dX1_reachPlaces_7 : decode cX1_reachPlaces 7 = .ok (.aload_n 0, 1) := by decide +kernel
theorem dX1_reachPlaces_8 : decode cX1_reachPlaces 8 = .ok (.ldc2_w 41, 3) := by decide +kernel
theorem dX1_reachPlaces_11 : decode cX1_reachPlaces 11 = .ok (.aload_n 1, 1) := by decide +kernel
theorem dX1_reachPlaces_12 : decode cX1_reachPlaces 12 = .ok (.iload_n 3, 1) := by decide +kernel
theorem dX1_reachPlaces_13 : decode cX1_reachPlaces 13 = .ok (.iaload, 1) := by decide +kernel
theorem dX1_reachPlaces_14 : decode cX1_reachPlaces 14 = .ok (.i2l, 1) := by decide +kernel
theorem dX1_reachPlaces_15 : decode cX1_reachPlaces 15 = .ok (.ladd, 1) := by decide +kernel
theorem dX1_reachPlaces_16 : decode cX1_reachPlaces 16 = .ok (.invokevirtual 49, 3) := by decide +kernel
theorem dX1_reachPlaces_19 : decode cX1_reachPlaces 19 = .ok (.iinc 3 1, 3) := by decide +kernel
theorem dX1_reachPlaces_22 : decode cX1_reachPlaces 22 = .ok (.goto (-20), 3) := by decide +kernel
theorem dX1_reachPlaces_25 : decode cX1_reachPlaces 25 = .ok (.return_, 1) := by decide +kernel
theorem dX1_reach_0 : decode cX1_reach 0 = .ok (.lload_n 1, 1) := by decide +kernel
theorem dX1_reach_1 : decode cX1_reach 1 = .ok (.ldc2_w 35, 3) := by decide +kernel
theorem dX1_reach_4 : decode cX1_reach 4 = .ok (.lcmp, 1) := by decide +kernel
theorem dX1_reach_5 : decode cX1_reach 5 = .ok (.ifCond .ge 4, 3) := by decide +kernel
theorem dX1_reach_8 : decode cX1_reach 8 = .ok (.return_, 1) := by decide +kernel
theorem dX1_reach_9 : decode cX1_reach 9 = .ok (.lload_n 1, 1) := by decide +kernel
theorem dX1_reach_10 : decode cX1_reach 10 = .ok (.invokestatic 53, 3) := by decide +kernel
theorem dX1_reach_13 : decode cX1_reach 13 = .ok (.istore_n 3, 1) := by decide +kernel
theorem dX1_reach_14 : decode cX1_reach 14 = .ok (.aload_n 0, 1) := by decide +kernel
theorem dX1_reach_15 : decode cX1_reach 15 = .ok (.getfield 25, 3) := by decide +kernel
theorem dX1_reach_18 : decode cX1_reach 18 = .ok (.iload_n 3, 1) := by decide +kernel
theorem dX1_reach_19 : decode cX1_reach 19 = .ok (.iaload, 1) := by decide +kernel
theorem dX1_reach_20 : decode cX1_reach 20 = .ok (.iconst (-1), 1) := by decide +kernel
theorem dX1_reach_21 : decode cX1_reach 21 = .ok (.if_icmp .ne 30, 3) := by decide +kernel
theorem dX1_reach_24 : decode cX1_reach 24 = .ok (.aload_n 0, 1) := by decide +kernel
theorem dX1_reach_25 : decode cX1_reach 25 = .ok (.getfield 25, 3) := by decide +kernel
theorem dX1_reach_28 : decode cX1_reach 28 = .ok (.iload_n 3, 1) := by decide +kernel
theorem dX1_reach_29 : decode cX1_reach 29 = .ok (.iload_n 3, 1) := by decide +kernel
theorem dX1_reach_30 : decode cX1_reach 30 = .ok (.iastore, 1) := by decide +kernel
theorem dX1_reach_31 : decode cX1_reach 31 = .ok (.aload_n 0, 1) := by decide +kernel
theorem dX1_reach_32 : decode cX1_reach 32 = .ok (.getfield 22, 3) := by decide +kernel
theorem dX1_reach_35 : decode cX1_reach 35 = .ok (.aload_n 0, 1) := by decide +kernel
theorem dX1_reach_36 : decode cX1_reach 36 = .ok (.getfield 32, 3) := by decide +kernel
theorem dX1_reach_39 : decode cX1_reach 39 = .ok (.iload_n 3, 1) := by decide +kernel
theorem dX1_reach_40 : decode cX1_reach 40 = .ok (.iastore, 1) := by decide +kernel
theorem dX1_reach_41 : decode cX1_reach 41 = .ok (.aload_n 0, 1) := by decide +kernel
theorem dX1_reach_42 : decode cX1_reach 42 = .ok (.dup, 1) := by decide +kernel
theorem dX1_reach_43 : decode cX1_reach 43 = .ok (.getfield 32, 3) := by decide +kernel
theorem dX1_reach_46 : decode cX1_reach 46 = .ok (.iconst 1, 1) := by decide +kernel
theorem dX1_reach_47 : decode cX1_reach 47 = .ok (.iadd, 1) := by decide +kernel
theorem dX1_reach_48 : decode cX1_reach 48 = .ok (.putfield 32, 3) := by decide +kernel
theorem dX1_reach_51 : decode cX1_reach 51 = .ok (.return_, 1) := by decide +kernel
theorem dX1_reachOnward_0 : decode cX1_reachOnward 0 = .ok (.iconst 0, 1) := by decide +kernel
theorem dX1_reachOnward_1 : decode cX1_reachOnward 1 = .ok (.istore_n 1, 1) := by decide +kernel
theorem dX1_reachOnward_2 : decode cX1_reachOnward 2 = .ok (.iload_n 1, 1) := by decide +kernel
theorem dX1_reachOnward_3 : decode cX1_reachOnward 3 = .ok (.aload_n 0, 1) := by decide +kernel
theorem dX1_reachOnward_4 : decode cX1_reachOnward 4 = .ok (.getfield 32, 3) := by decide +kernel
theorem dX1_reachOnward_7 : decode cX1_reachOnward 7 = .ok (.if_icmp .ge 46, 3) := by decide +kernel
theorem dX1_reachOnward_10 : decode cX1_reachOnward 10 = .ok (.iload_n 1, 1) := by decide +kernel
theorem dX1_reachOnward_11 : decode cX1_reachOnward 11 = .ok (.sipush 200, 3) := by decide +kernel
theorem dX1_reachOnward_14 : decode cX1_reachOnward 14 = .ok (.if_icmp .ge 39, 3) := by decide +kernel
theorem dX1_reachOnward_17 : decode cX1_reachOnward 17 = .ok (.aload_n 0, 1) := by decide +kernel
theorem dX1_reachOnward_18 : decode cX1_reachOnward 18 = .ok (.aload_n 0, 1) := by decide +kernel
theorem dX1_reachOnward_19 : decode cX1_reachOnward 19 = .ok (.getfield 15, 3) := by decide +kernel
theorem dX1_reachOnward_22 : decode cX1_reachOnward 22 = .ok (.aload_n 0, 1) := by decide +kernel
theorem dX1_reachOnward_23 : decode cX1_reachOnward 23 = .ok (.getfield 22, 3) := by decide +kernel
theorem dX1_reachOnward_26 : decode cX1_reachOnward 26 = .ok (.iload_n 1, 1) := by decide +kernel
theorem dX1_reachOnward_27 : decode cX1_reachOnward 27 = .ok (.iaload, 1) := by decide +kernel
theorem dX1_reachOnward_28 : decode cX1_reachOnward 28 = .ok (.laload, 1) := by decide +kernel
theorem dX1_reachOnward_29 : decode cX1_reachOnward 29 = .ok (.invokevirtual 49, 3) := by decide +kernel
theorem dX1_reachOnward_32 : decode cX1_reachOnward 32 = .ok (.aload_n 0, 1) := by decide +kernel
theorem dX1_reachOnward_33 : decode cX1_reachOnward 33 = .ok (.aload_n 0, 1) := by decide +kernel
theorem dX1_reachOnward_34 : decode cX1_reachOnward 34 = .ok (.getfield 19, 3) := by decide +kernel
theorem dX1_reachOnward_37 : decode cX1_reachOnward 37 = .ok (.aload_n 0, 1) := by decide +kernel
theorem dX1_reachOnward_38 : decode cX1_reachOnward 38 = .ok (.getfield 22, 3) := by decide +kernel
theorem dX1_reachOnward_41 : decode cX1_reachOnward 41 = .ok (.iload_n 1, 1) := by decide +kernel
theorem dX1_reachOnward_42 : decode cX1_reachOnward 42 = .ok (.iaload, 1) := by decide +kernel
theorem dX1_reachOnward_43 : decode cX1_reachOnward 43 = .ok (.laload, 1) := by decide +kernel
theorem dX1_reachOnward_44 : decode cX1_reachOnward 44 = .ok (.invokevirtual 49, 3) := by decide +kernel
theorem dX1_reachOnward_47 : decode cX1_reachOnward 47 = .ok (.iinc 1 1, 3) := by decide +kernel
theorem dX1_reachOnward_50 : decode cX1_reachOnward 50 = .ok (.goto (-48), 3) := by decide +kernel
theorem dX1_reachOnward_53 : decode cX1_reachOnward 53 = .ok (.return_, 1) := by decide +kernel
theorem dX1_slide_0 : decode cX1_slide 0 = .ok (.iconst 0, 1) := by decide +kernel
theorem dX1_slide_1 : decode cX1_slide 1 = .ok (.istore_n 1, 1) := by decide +kernel
theorem dX1_slide_2 : decode cX1_slide 2 = .ok (.iconst 0, 1) := by decide +kernel
theorem dX1_slide_3 : decode cX1_slide 3 = .ok (.istore_n 2, 1) := by decide +kernel
theorem dX1_slide_4 : decode cX1_slide 4 = .ok (.iload_n 2, 1) := by decide +kernel
theorem dX1_slide_5 : decode cX1_slide 5 = .ok (.aload_n 0, 1) := by decide +kernel
theorem dX1_slide_6 : decode cX1_slide 6 = .ok (.getfield 28, 3) := by decide +kernel
theorem dX1_slide_9 : decode cX1_slide 9 = .ok (.if_icmp .ge 65, 3) := by decide +kernel
theorem dX1_slide_12 : decode cX1_slide 12 = .ok (.aload_n 0, 1) := by decide +kernel
theorem dX1_slide_13 : decode cX1_slide 13 = .ok (.getfield 25, 3) := by decide +kernel
theorem dX1_slide_16 : decode cX1_slide 16 = .ok (.iload_n 2, 1) := by decide +kernel
theorem dX1_slide_17 : decode cX1_slide 17 = .ok (.iaload, 1) := by decide +kernel
theorem dX1_slide_18 : decode cX1_slide 18 = .ok (.iconst (-1), 1) := by decide +kernel
theorem dX1_slide_19 : decode cX1_slide 19 = .ok (.if_icmp .eq 49, 3) := by decide +kernel
theorem dX1_slide_22 : decode cX1_slide 22 = .ok (.aload_n 0, 1) := by decide +kernel
theorem dX1_slide_23 : decode cX1_slide 23 = .ok (.getfield 25, 3) := by decide +kernel
theorem dX1_slide_26 : decode cX1_slide 26 = .ok (.iload_n 2, 1) := by decide +kernel
theorem dX1_slide_27 : decode cX1_slide 27 = .ok (.iload_n 1, 1) := by decide +kernel
theorem dX1_slide_28 : decode cX1_slide 28 = .ok (.iastore, 1) := by decide +kernel
theorem dX1_slide_29 : decode cX1_slide 29 = .ok (.aload_n 0, 1) := by decide +kernel
theorem dX1_slide_30 : decode cX1_slide 30 = .ok (.getfield 9, 3) := by decide +kernel
theorem dX1_slide_33 : decode cX1_slide 33 = .ok (.iload_n 1, 1) := by decide +kernel
theorem dX1_slide_34 : decode cX1_slide 34 = .ok (.aload_n 0, 1) := by decide +kernel
theorem dX1_slide_35 : decode cX1_slide 35 = .ok (.getfield 9, 3) := by decide +kernel
theorem dX1_slide_38 : decode cX1_slide 38 = .ok (.iload_n 2, 1) := by decide +kernel
theorem dX1_slide_39 : decode cX1_slide 39 = .ok (.iaload, 1) := by decide +kernel
theorem dX1_slide_40 : decode cX1_slide 40 = .ok (.iastore, 1) := by decide +kernel
theorem dX1_slide_41 : decode cX1_slide 41 = .ok (.aload_n 0, 1) := by decide +kernel
theorem dX1_slide_42 : decode cX1_slide 42 = .ok (.getfield 15, 3) := by decide +kernel
theorem dX1_slide_45 : decode cX1_slide 45 = .ok (.iload_n 1, 1) := by decide +kernel
theorem dX1_slide_46 : decode cX1_slide 46 = .ok (.aload_n 0, 1) := by decide +kernel
theorem dX1_slide_47 : decode cX1_slide 47 = .ok (.getfield 15, 3) := by decide +kernel
theorem dX1_slide_50 : decode cX1_slide 50 = .ok (.iload_n 2, 1) := by decide +kernel
theorem dX1_slide_51 : decode cX1_slide 51 = .ok (.laload, 1) := by decide +kernel
theorem dX1_slide_52 : decode cX1_slide 52 = .ok (.lastore, 1) := by decide +kernel
theorem dX1_slide_53 : decode cX1_slide 53 = .ok (.aload_n 0, 1) := by decide +kernel
theorem dX1_slide_54 : decode cX1_slide 54 = .ok (.getfield 19, 3) := by decide +kernel
theorem dX1_slide_57 : decode cX1_slide 57 = .ok (.iload_n 1, 1) := by decide +kernel
theorem dX1_slide_58 : decode cX1_slide 58 = .ok (.aload_n 0, 1) := by decide +kernel
theorem dX1_slide_59 : decode cX1_slide 59 = .ok (.getfield 19, 3) := by decide +kernel
theorem dX1_slide_62 : decode cX1_slide 62 = .ok (.iload_n 2, 1) := by decide +kernel
theorem dX1_slide_63 : decode cX1_slide 63 = .ok (.laload, 1) := by decide +kernel
theorem dX1_slide_64 : decode cX1_slide 64 = .ok (.lastore, 1) := by decide +kernel
theorem dX1_slide_65 : decode cX1_slide 65 = .ok (.iinc 1 1, 3) := by decide +kernel
theorem dX1_slide_68 : decode cX1_slide 68 = .ok (.iinc 2 1, 3) := by decide +kernel
theorem dX1_slide_71 : decode cX1_slide 71 = .ok (.goto (-67), 3) := by decide +kernel
theorem dX1_slide_74 : decode cX1_slide 74 = .ok (.aload_n 0, 1) := by decide +kernel
theorem dX1_slide_75 : decode cX1_slide 75 = .ok (.iload_n 1, 1) := by decide +kernel
theorem dX1_slide_76 : decode cX1_slide 76 = .ok (.putfield 28, 3) := by decide +kernel
theorem dX1_slide_79 : decode cX1_slide 79 = .ok (.aload_n 0, 1) := by decide +kernel
theorem dX1_slide_80 : decode cX1_slide 80 = .ok (.aload_n 0, 1) := by decide +kernel
theorem dX1_slide_81 : decode cX1_slide 81 = .ok (.getfield 15, 3) := by decide +kernel
theorem dX1_slide_84 : decode cX1_slide 84 = .ok (.aload_n 0, 1) := by decide +kernel
theorem dX1_slide_85 : decode cX1_slide 85 = .ok (.getfield 28, 3) := by decide +kernel
theorem dX1_slide_88 : decode cX1_slide 88 = .ok (.invokevirtual 57, 3) := by decide +kernel
theorem dX1_slide_91 : decode cX1_slide 91 = .ok (.aload_n 0, 1) := by decide +kernel
theorem dX1_slide_92 : decode cX1_slide 92 = .ok (.aload_n 0, 1) := by decide +kernel
theorem dX1_slide_93 : decode cX1_slide 93 = .ok (.getfield 19, 3) := by decide +kernel
theorem dX1_slide_96 : decode cX1_slide 96 = .ok (.aload_n 0, 1) := by decide +kernel
theorem dX1_slide_97 : decode cX1_slide 97 = .ok (.getfield 28, 3) := by decide +kernel
theorem dX1_slide_100 : decode cX1_slide 100 = .ok (.invokevirtual 57, 3) := by decide +kernel
theorem dX1_slide_103 : decode cX1_slide 103 = .ok (.return_, 1) := by decide +kernel
theorem dX1_followRow_0 : decode cX1_followRow 0 = .ok (.iconst 0, 1) := by decide +kernel
theorem dX1_followRow_1 : decode cX1_followRow 1 = .ok (.istore_n 3, 1) := by decide +kernel
theorem dX1_followRow_2 : decode cX1_followRow 2 = .ok (.iload_n 3, 1) := by decide +kernel
theorem dX1_followRow_3 : decode cX1_followRow 3 = .ok (.iload_n 2, 1) := by decide +kernel
theorem dX1_followRow_4 : decode cX1_followRow 4 = .ok (.if_icmp .ge 46, 3) := by decide +kernel
theorem dX1_followRow_7 : decode cX1_followRow 7 = .ok (.aload_n 1, 1) := by decide +kernel
theorem dX1_followRow_8 : decode cX1_followRow 8 = .ok (.iload_n 3, 1) := by decide +kernel
theorem dX1_followRow_9 : decode cX1_followRow 9 = .ok (.laload, 1) := by decide +kernel
theorem dX1_followRow_10 : decode cX1_followRow 10 = .ok (.ldc2_w 35, 3) := by decide +kernel
theorem dX1_followRow_13 : decode cX1_followRow 13 = .ok (.lcmp, 1) := by decide +kernel
theorem dX1_followRow_14 : decode cX1_followRow 14 = .ok (.ifCond .lt 30, 3) := by decide +kernel
theorem dX1_followRow_17 : decode cX1_followRow 17 = .ok (.aload_n 1, 1) := by decide +kernel
theorem dX1_followRow_18 : decode cX1_followRow 18 = .ok (.iload_n 3, 1) := by decide +kernel
theorem dX1_followRow_19 : decode cX1_followRow 19 = .ok (.laload, 1) := by decide +kernel
theorem dX1_followRow_20 : decode cX1_followRow 20 = .ok (.invokestatic 53, 3) := by decide +kernel
theorem dX1_followRow_23 : decode cX1_followRow 23 = .ok (.istore 4, 2) := by decide +kernel
theorem dX1_followRow_25 : decode cX1_followRow 25 = .ok (.aload_n 1, 1) := by decide +kernel
theorem dX1_followRow_26 : decode cX1_followRow 26 = .ok (.iload_n 3, 1) := by decide +kernel
theorem dX1_followRow_27 : decode cX1_followRow 27 = .ok (.aload_n 1, 1) := by decide +kernel
theorem dX1_followRow_28 : decode cX1_followRow 28 = .ok (.iload_n 3, 1) := by decide +kernel
theorem dX1_followRow_29 : decode cX1_followRow 29 = .ok (.laload, 1) := by decide +kernel
theorem dX1_followRow_30 : decode cX1_followRow 30 = .ok (.iload 4, 2) := by decide +kernel
theorem dX1_followRow_32 : decode cX1_followRow 32 = .ok (.i2l, 1) := by decide +kernel
theorem dX1_followRow_33 : decode cX1_followRow 33 = .ok (.lsub, 1) := by decide +kernel
theorem dX1_followRow_34 : decode cX1_followRow 34 = .ok (.aload_n 0, 1) := by decide +kernel
theorem dX1_followRow_35 : decode cX1_followRow 35 = .ok (.getfield 25, 3) := by decide +kernel
theorem dX1_followRow_38 : decode cX1_followRow 38 = .ok (.iload 4, 2) := by decide +kernel
theorem dX1_followRow_40 : decode cX1_followRow 40 = .ok (.iaload, 1) := by decide +kernel
theorem dX1_followRow_41 : decode cX1_followRow 41 = .ok (.i2l, 1) := by decide +kernel
theorem dX1_followRow_42 : decode cX1_followRow 42 = .ok (.ladd, 1) := by decide +kernel
theorem dX1_followRow_43 : decode cX1_followRow 43 = .ok (.lastore, 1) := by decide +kernel
theorem dX1_followRow_44 : decode cX1_followRow 44 = .ok (.iinc 3 1, 3) := by decide +kernel
theorem dX1_followRow_47 : decode cX1_followRow 47 = .ok (.goto (-45), 3) := by decide +kernel
theorem dX1_followRow_50 : decode cX1_followRow 50 = .ok (.return_, 1) := by decide +kernel
theorem dX1_followPlaces_0 : decode cX1_followPlaces 0 = .ok (.iconst 0, 1) := by decide +kernel
theorem dX1_followPlaces_1 : decode cX1_followPlaces 1 = .ok (.istore_n 3, 1) := by decide +kernel
theorem dX1_followPlaces_2 : decode cX1_followPlaces 2 = .ok (.iload_n 3, 1) := by decide +kernel
theorem dX1_followPlaces_3 : decode cX1_followPlaces 3 = .ok (.iload_n 2, 1) := by decide +kernel
theorem dX1_followPlaces_4 : decode cX1_followPlaces 4 = .ok (.if_icmp .ge 20, 3) := by decide +kernel
theorem dX1_followPlaces_7 : decode cX1_followPlaces 7 = .ok (.aload_n 1, 1) := by decide +kernel
theorem dX1_followPlaces_8 : decode cX1_followPlaces 8 = .ok (.iload_n 3, 1) := by decide +kernel
theorem dX1_followPlaces_9 : decode cX1_followPlaces 9 = .ok (.aload_n 0, 1) := by decide +kernel
theorem dX1_followPlaces_10 : decode cX1_followPlaces 10 = .ok (.getfield 25, 3) := by decide +kernel
theorem dX1_followPlaces_13 : decode cX1_followPlaces 13 = .ok (.aload_n 1, 1) := by decide +kernel
theorem dX1_followPlaces_14 : decode cX1_followPlaces 14 = .ok (.iload_n 3, 1) := by decide +kernel
theorem dX1_followPlaces_15 : decode cX1_followPlaces 15 = .ok (.iaload, 1) := by decide +kernel
theorem dX1_followPlaces_16 : decode cX1_followPlaces 16 = .ok (.iaload, 1) := by decide +kernel
theorem dX1_followPlaces_17 : decode cX1_followPlaces 17 = .ok (.iastore, 1) := by decide +kernel
theorem dX1_followPlaces_18 : decode cX1_followPlaces 18 = .ok (.iinc 3 1, 3) := by decide +kernel
theorem dX1_followPlaces_21 : decode cX1_followPlaces 21 = .ok (.goto (-19), 3) := by decide +kernel
theorem dX1_followPlaces_24 : decode cX1_followPlaces 24 = .ok (.return_, 1) := by decide +kernel
theorem dX2_init_0 : decode cX2_init 0 = .ok (.aload_n 0, 1) := by decide +kernel
theorem dX2_init_1 : decode cX2_init 1 = .ok (.invokespecial 1, 3) := by decide +kernel
theorem dX2_init_4 : decode cX2_init 4 = .ok (.aload_n 0, 1) := by decide +kernel
theorem dX2_init_5 : decode cX2_init 5 = .ok (.iload_n 1, 1) := by decide +kernel
theorem dX2_init_6 : decode cX2_init 6 = .ok (.putfield 7, 3) := by decide +kernel
theorem dX2_init_9 : decode cX2_init 9 = .ok (.aload_n 0, 1) := by decide +kernel
theorem dX2_init_10 : decode cX2_init 10 = .ok (.iload_n 2, 1) := by decide +kernel
theorem dX2_init_11 : decode cX2_init 11 = .ok (.putfield 13, 3) := by decide +kernel
theorem dX2_init_14 : decode cX2_init 14 = .ok (.aload_n 0, 1) := by decide +kernel
theorem dX2_init_15 : decode cX2_init 15 = .ok (.iload_n 3, 1) := by decide +kernel
theorem dX2_init_16 : decode cX2_init 16 = .ok (.putfield 16, 3) := by decide +kernel
theorem dX2_init_19 : decode cX2_init 19 = .ok (.aload_n 0, 1) := by decide +kernel
theorem dX2_init_20 : decode cX2_init 20 = .ok (.iload 4, 2) := by decide +kernel
theorem dX2_init_22 : decode cX2_init 22 = .ok (.putfield 19, 3) := by decide +kernel
theorem dX2_init_25 : decode cX2_init 25 = .ok (.return_, 1) := by decide +kernel
theorem dX3_init_0 : decode cX3_init 0 = .ok (.aload_n 0, 1) := by decide +kernel
theorem dX3_init_1 : decode cX3_init 1 = .ok (.invokespecial 3, 3) := by decide +kernel
theorem dX3_init_4 : decode cX3_init 4 = .ok (.aload_n 0, 1) := by decide +kernel
theorem dX3_init_5 : decode cX3_init 5 = .ok (.bipush 40, 2) := by decide +kernel
theorem dX3_init_7 : decode cX3_init 7 = .ok (.newarray .int, 2) := by decide +kernel
theorem dX3_init_9 : decode cX3_init 9 = .ok (.putfield 9, 3) := by decide +kernel
theorem dX3_init_12 : decode cX3_init 12 = .ok (.aload_n 0, 1) := by decide +kernel
theorem dX3_init_13 : decode cX3_init 13 = .ok (.bipush 40, 2) := by decide +kernel
theorem dX3_init_15 : decode cX3_init 15 = .ok (.newarray .int, 2) := by decide +kernel
theorem dX3_init_17 : decode cX3_init 17 = .ok (.putfield 15, 3) := by decide +kernel
theorem dX3_init_20 : decode cX3_init 20 = .ok (.aload_n 0, 1) := by decide +kernel
theorem dX3_init_21 : decode cX3_init 21 = .ok (.bipush 40, 2) := by decide +kernel
theorem dX3_init_23 : decode cX3_init 23 = .ok (.newarray .long, 2) := by decide +kernel
theorem dX3_init_25 : decode cX3_init 25 = .ok (.putfield 18, 3) := by decide +kernel
theorem dX3_init_28 : decode cX3_init 28 = .ok (.aload_n 0, 1) := by decide +kernel
theorem dX3_init_29 : decode cX3_init 29 = .ok (.iconst 0, 1) := by decide +kernel
theorem dX3_init_30 : decode cX3_init 30 = .ok (.putfield 22, 3) := by decide +kernel
theorem dX3_init_33 : decode cX3_init 33 = .ok (.aload_n 0, 1) := by decide +kernel
theorem dX3_init_34 : decode cX3_init 34 = .ok (.iconst 0, 1) := by decide +kernel
theorem dX3_init_35 : decode cX3_init 35 = .ok (.putfield 26, 3) := by decide +kernel
theorem dX3_init_38 : decode cX3_init 38 = .ok (.aload_n 0, 1) := by decide +kernel
theorem dX3_init_39 : decode cX3_init 39 = .ok (.iconst 0, 1) := by decide +kernel
theorem dX3_init_40 : decode cX3_init 40 = .ok (.putfield 29, 3) := by decide +kernel
theorem dX3_init_43 : decode cX3_init 43 = .ok (.return_, 1) := by decide +kernel
theorem dX3_begin_0 : decode cX3_begin 0 = .ok (.aload_n 0, 1) := by decide +kernel
theorem dX3_begin_1 : decode cX3_begin 1 = .ok (.iconst 0, 1) := by decide +kernel
theorem dX3_begin_2 : decode cX3_begin 2 = .ok (.putfield 22, 3) := by decide +kernel
theorem dX3_begin_5 : decode cX3_begin 5 = .ok (.aload_n 0, 1) := by decide +kernel
theorem dX3_begin_6 : decode cX3_begin 6 = .ok (.iconst 0, 1) := by decide +kernel
theorem dX3_begin_7 : decode cX3_begin 7 = .ok (.putfield 26, 3) := by decide +kernel
theorem dX3_begin_10 : decode cX3_begin 10 = .ok (.aload_n 0, 1) := by decide +kernel
theorem dX3_begin_11 : decode cX3_begin 11 = .ok (.iload_n 1, 1) := by decide +kernel
theorem dX3_begin_12 : decode cX3_begin 12 = .ok (.putfield 29, 3) := by decide +kernel
theorem dX3_begin_15 : decode cX3_begin 15 = .ok (.return_, 1) := by decide +kernel
theorem dX3_clear_0 : decode cX3_clear 0 = .ok (.aload_n 0, 1) := by decide +kernel
theorem dX3_clear_1 : decode cX3_clear 1 = .ok (.iconst 0, 1) := by decide +kernel
theorem dX3_clear_2 : decode cX3_clear 2 = .ok (.putfield 22, 3) := by decide +kernel
theorem dX3_clear_5 : decode cX3_clear 5 = .ok (.aload_n 0, 1) := by decide +kernel
theorem dX3_clear_6 : decode cX3_clear 6 = .ok (.iconst 0, 1) := by decide +kernel
theorem dX3_clear_7 : decode cX3_clear 7 = .ok (.putfield 26, 3) := by decide +kernel
theorem dX3_clear_10 : decode cX3_clear 10 = .ok (.return_, 1) := by decide +kernel
theorem dX3_isValid_0 : decode cX3_isValid 0 = .ok (.iconst 0, 1) := by decide +kernel
theorem dX3_isValid_1 : decode cX3_isValid 1 = .ok (.istore_n 2, 1) := by decide +kernel
theorem dX3_isValid_2 : decode cX3_isValid 2 = .ok (.iload_n 2, 1) := by decide +kernel
theorem dX3_isValid_3 : decode cX3_isValid 3 = .ok (.aload_n 0, 1) := by decide +kernel
theorem dX3_isValid_4 : decode cX3_isValid 4 = .ok (.getfield 22, 3) := by decide +kernel
theorem dX3_isValid_7 : decode cX3_isValid 7 = .ok (.if_icmp .ge 31, 3) := by decide +kernel
theorem dX3_isValid_10 : decode cX3_isValid 10 = .ok (.aload_n 1, 1) := by decide +kernel
theorem dX3_isValid_11 : decode cX3_isValid 11 = .ok (.getfield 32, 3) := by decide +kernel
theorem dX3_isValid_14 : decode cX3_isValid 14 = .ok (.aload_n 0, 1) := by decide +kernel
theorem dX3_isValid_15 : decode cX3_isValid 15 = .ok (.getfield 9, 3) := by decide +kernel
theorem dX3_isValid_18 : decode cX3_isValid 18 = .ok (.iload_n 2, 1) := by decide +kernel
theorem dX3_isValid_19 : decode cX3_isValid 19 = .ok (.iaload, 1) := by decide +kernel
theorem dX3_isValid_20 : decode cX3_isValid 20 = .ok (.laload, 1) := by decide +kernel
theorem dX3_isValid_21 : decode cX3_isValid 21 = .ok (.aload_n 0, 1) := by decide +kernel
theorem dX3_isValid_22 : decode cX3_isValid 22 = .ok (.getfield 29, 3) := by decide +kernel
theorem dX3_isValid_25 : decode cX3_isValid 25 = .ok (.i2l, 1) := by decide +kernel
theorem dX3_isValid_26 : decode cX3_isValid 26 = .ok (.lcmp, 1) := by decide +kernel
theorem dX3_isValid_27 : decode cX3_isValid 27 = .ok (.ifCond .le 5, 3) := by decide +kernel
theorem dX3_isValid_30 : decode cX3_isValid 30 = .ok (.iconst 0, 1) := by decide +kernel
theorem dX3_isValid_31 : decode cX3_isValid 31 = .ok (.ireturn, 1) := by decide +kernel
theorem dX3_isValid_32 : decode cX3_isValid 32 = .ok (.iinc 2 1, 3) := by decide +kernel
theorem dX3_isValid_35 : decode cX3_isValid 35 = .ok (.goto (-33), 3) := by decide +kernel
theorem dX3_isValid_38 : decode cX3_isValid 38 = .ok (.iconst 1, 1) := by decide +kernel
theorem dX3_isValid_39 : decode cX3_isValid 39 = .ok (.ireturn, 1) := by decide +kernel
theorem dX3_hasRead_0 : decode cX3_hasRead 0 = .ok (.iconst 0, 1) := by decide +kernel
theorem dX3_hasRead_1 : decode cX3_hasRead 1 = .ok (.istore_n 2, 1) := by decide +kernel
theorem dX3_hasRead_2 : decode cX3_hasRead 2 = .ok (.iload_n 2, 1) := by decide +kernel
theorem dX3_hasRead_3 : decode cX3_hasRead 3 = .ok (.aload_n 0, 1) := by decide +kernel
theorem dX3_hasRead_4 : decode cX3_hasRead 4 = .ok (.getfield 22, 3) := by decide +kernel
theorem dX3_hasRead_7 : decode cX3_hasRead 7 = .ok (.if_icmp .ge 21, 3) := by decide +kernel
theorem dX3_hasRead_10 : decode cX3_hasRead 10 = .ok (.aload_n 0, 1) := by decide +kernel
theorem dX3_hasRead_11 : decode cX3_hasRead 11 = .ok (.getfield 9, 3) := by decide +kernel
theorem dX3_hasRead_14 : decode cX3_hasRead 14 = .ok (.iload_n 2, 1) := by decide +kernel
theorem dX3_hasRead_15 : decode cX3_hasRead 15 = .ok (.iaload, 1) := by decide +kernel
theorem dX3_hasRead_16 : decode cX3_hasRead 16 = .ok (.iload_n 1, 1) := by decide +kernel
theorem dX3_hasRead_17 : decode cX3_hasRead 17 = .ok (.if_icmp .ne 5, 3) := by decide +kernel
theorem dX3_hasRead_20 : decode cX3_hasRead 20 = .ok (.iconst 1, 1) := by decide +kernel
theorem dX3_hasRead_21 : decode cX3_hasRead 21 = .ok (.ireturn, 1) := by decide +kernel
theorem dX3_hasRead_22 : decode cX3_hasRead 22 = .ok (.iinc 2 1, 3) := by decide +kernel
theorem dX3_hasRead_25 : decode cX3_hasRead 25 = .ok (.goto (-23), 3) := by decide +kernel
theorem dX3_hasRead_28 : decode cX3_hasRead 28 = .ok (.iconst 0, 1) := by decide +kernel
theorem dX3_hasRead_29 : decode cX3_hasRead 29 = .ok (.ireturn, 1) := by decide +kernel
theorem dX3_lastWriteOf_0 : decode cX3_lastWriteOf 0 = .ok (.aload_n 0, 1) := by decide +kernel
theorem dX3_lastWriteOf_1 : decode cX3_lastWriteOf 1 = .ok (.getfield 26, 3) := by decide +kernel
theorem dX3_lastWriteOf_4 : decode cX3_lastWriteOf 4 = .ok (.iconst 1, 1) := by decide +kernel
theorem dX3_lastWriteOf_5 : decode cX3_lastWriteOf 5 = .ok (.isub, 1) := by decide +kernel
theorem dX3_lastWriteOf_6 : decode cX3_lastWriteOf 6 = .ok (.istore_n 2, 1) := by decide +kernel
theorem dX3_lastWriteOf_7 : decode cX3_lastWriteOf 7 = .ok (.iload_n 2, 1) := by decide +kernel
theorem dX3_lastWriteOf_8 : decode cX3_lastWriteOf 8 = .ok (.ifCond .lt 21, 3) := by decide +kernel
theorem dX3_lastWriteOf_11 : decode cX3_lastWriteOf 11 = .ok (.aload_n 0, 1) := by decide +kernel
theorem dX3_lastWriteOf_12 : decode cX3_lastWriteOf 12 = .ok (.getfield 15, 3) := by decide +kernel
theorem dX3_lastWriteOf_15 : decode cX3_lastWriteOf 15 = .ok (.iload_n 2, 1) := by decide +kernel
theorem dX3_lastWriteOf_16 : decode cX3_lastWriteOf 16 = .ok (.iaload, 1) := by decide +kernel
theorem dX3_lastWriteOf_17 : decode cX3_lastWriteOf 17 = .ok (.iload_n 1, 1) := by decide +kernel
theorem dX3_lastWriteOf_18 : decode cX3_lastWriteOf 18 = .ok (.if_icmp .ne 5, 3) := by decide +kernel
theorem dX3_lastWriteOf_21 : decode cX3_lastWriteOf 21 = .ok (.iload_n 2, 1) := by decide +kernel
theorem dX3_lastWriteOf_22 : decode cX3_lastWriteOf 22 = .ok (.ireturn, 1) := by decide +kernel
theorem dX3_lastWriteOf_23 : decode cX3_lastWriteOf 23 = .ok (.iinc 2 (-1), 3) := by decide +kernel
theorem dX3_lastWriteOf_26 : decode cX3_lastWriteOf 26 = .ok (.goto (-19), 3) := by decide +kernel
theorem dX3_lastWriteOf_29 : decode cX3_lastWriteOf 29 = .ok (.iconst (-1), 1) := by decide +kernel
theorem dX3_lastWriteOf_30 : decode cX3_lastWriteOf 30 = .ok (.ireturn, 1) := by decide +kernel
theorem dX3_addRead_0 : decode cX3_addRead 0 = .ok (.aload_n 0, 1) := by decide +kernel
theorem dX3_addRead_1 : decode cX3_addRead 1 = .ok (.getfield 9, 3) := by decide +kernel
theorem dX3_addRead_4 : decode cX3_addRead 4 = .ok (.aload_n 0, 1) := by decide +kernel
theorem dX3_addRead_5 : decode cX3_addRead 5 = .ok (.getfield 22, 3) := by decide +kernel
theorem dX3_addRead_8 : decode cX3_addRead 8 = .ok (.iload_n 1, 1) := by decide +kernel
theorem dX3_addRead_9 : decode cX3_addRead 9 = .ok (.iastore, 1) := by decide +kernel
theorem dX3_addRead_10 : decode cX3_addRead 10 = .ok (.aload_n 0, 1) := by decide +kernel
theorem dX3_addRead_11 : decode cX3_addRead 11 = .ok (.dup, 1) := by decide +kernel
theorem dX3_addRead_12 : decode cX3_addRead 12 = .ok (.getfield 22, 3) := by decide +kernel
theorem dX3_addRead_15 : decode cX3_addRead 15 = .ok (.iconst 1, 1) := by decide +kernel
theorem dX3_addRead_16 : decode cX3_addRead 16 = .ok (.iadd, 1) := by decide +kernel
theorem dX3_addRead_17 : decode cX3_addRead 17 = .ok (.putfield 22, 3) := by decide +kernel
theorem dX3_addRead_20 : decode cX3_addRead 20 = .ok (.return_, 1) := by decide +kernel
theorem dX3_addWrite_0 : decode cX3_addWrite 0 = .ok (.aload_n 0, 1) := by decide +kernel
theorem dX3_addWrite_1 : decode cX3_addWrite 1 = .ok (.getfield 15, 3) := by decide +kernel
theorem dX3_addWrite_4 : decode cX3_addWrite 4 = .ok (.aload_n 0, 1) := by decide +kernel
theorem dX3_addWrite_5 : decode cX3_addWrite 5 = .ok (.getfield 26, 3) := by decide +kernel
theorem dX3_addWrite_8 : decode cX3_addWrite 8 = .ok (.iload_n 1, 1) := by decide +kernel
theorem dX3_addWrite_9 : decode cX3_addWrite 9 = .ok (.iastore, 1) := by decide +kernel
theorem dX3_addWrite_10 : decode cX3_addWrite 10 = .ok (.aload_n 0, 1) := by decide +kernel
theorem dX3_addWrite_11 : decode cX3_addWrite 11 = .ok (.getfield 18, 3) := by decide +kernel
theorem dX3_addWrite_14 : decode cX3_addWrite 14 = .ok (.aload_n 0, 1) := by decide +kernel
theorem dX3_addWrite_15 : decode cX3_addWrite 15 = .ok (.getfield 26, 3) := by decide +kernel
theorem dX3_addWrite_18 : decode cX3_addWrite 18 = .ok (.lload_n 2, 1) := by decide +kernel
theorem dX3_addWrite_19 : decode cX3_addWrite 19 = .ok (.lastore, 1) := by decide +kernel
theorem dX3_addWrite_20 : decode cX3_addWrite 20 = .ok (.aload_n 0, 1) := by decide +kernel
theorem dX3_addWrite_21 : decode cX3_addWrite 21 = .ok (.dup, 1) := by decide +kernel
theorem dX3_addWrite_22 : decode cX3_addWrite 22 = .ok (.getfield 26, 3) := by decide +kernel
theorem dX3_addWrite_25 : decode cX3_addWrite 25 = .ok (.iconst 1, 1) := by decide +kernel
theorem dX3_addWrite_26 : decode cX3_addWrite 26 = .ok (.iadd, 1) := by decide +kernel
theorem dX3_addWrite_27 : decode cX3_addWrite 27 = .ok (.putfield 26, 3) := by decide +kernel
theorem dX3_addWrite_30 : decode cX3_addWrite 30 = .ok (.return_, 1) := by decide +kernel
theorem dX3_readsOneThatIsIn_0 : decode cX3_readsOneThatIsIn 0 = .ok (.iconst 0, 1) := by decide +kernel
theorem dX3_readsOneThatIsIn_1 : decode cX3_readsOneThatIsIn 1 = .ok (.istore_n 2, 1) := by decide +kernel
theorem dX3_readsOneThatIsIn_2 : decode cX3_readsOneThatIsIn 2 = .ok (.iload_n 2, 1) := by decide +kernel
theorem dX3_readsOneThatIsIn_3 : decode cX3_readsOneThatIsIn 3 = .ok (.aload_n 0, 1) := by decide +kernel
theorem dX3_readsOneThatIsIn_4 : decode cX3_readsOneThatIsIn 4 = .ok (.getfield 22, 3) := by decide +kernel
theorem dX3_readsOneThatIsIn_7 : decode cX3_readsOneThatIsIn 7 = .ok (.if_icmp .ge 24, 3) := by decide +kernel
theorem dX3_readsOneThatIsIn_10 : decode cX3_readsOneThatIsIn 10 = .ok (.aload_n 1, 1) := by decide +kernel
theorem dX3_readsOneThatIsIn_11 : decode cX3_readsOneThatIsIn 11 = .ok (.aload_n 0, 1) := by decide +kernel
theorem dX3_readsOneThatIsIn_12 : decode cX3_readsOneThatIsIn 12 = .ok (.getfield 9, 3) := by decide +kernel
theorem dX3_readsOneThatIsIn_15 : decode cX3_readsOneThatIsIn 15 = .ok (.iload_n 2, 1) := by decide +kernel
theorem dX3_readsOneThatIsIn_16 : decode cX3_readsOneThatIsIn 16 = .ok (.iaload, 1) := by decide +kernel
theorem dX3_readsOneThatIsIn_17 : decode cX3_readsOneThatIsIn 17 = .ok (.invokevirtual 37, 3) := by decide +kernel
theorem dX3_readsOneThatIsIn_20 : decode cX3_readsOneThatIsIn 20 = .ok (.ifCond .lt 5, 3) := by decide +kernel
theorem dX3_readsOneThatIsIn_23 : decode cX3_readsOneThatIsIn 23 = .ok (.iconst 1, 1) := by decide +kernel
theorem dX3_readsOneThatIsIn_24 : decode cX3_readsOneThatIsIn 24 = .ok (.ireturn, 1) := by decide +kernel
theorem dX3_readsOneThatIsIn_25 : decode cX3_readsOneThatIsIn 25 = .ok (.iinc 2 1, 3) := by decide +kernel
theorem dX3_readsOneThatIsIn_28 : decode cX3_readsOneThatIsIn 28 = .ok (.goto (-26), 3) := by decide +kernel
theorem dX3_readsOneThatIsIn_31 : decode cX3_readsOneThatIsIn 31 = .ok (.iconst 0, 1) := by decide +kernel
theorem dX3_readsOneThatIsIn_32 : decode cX3_readsOneThatIsIn 32 = .ok (.ireturn, 1) := by decide +kernel
theorem dX5_init_0 : decode cX5_init 0 = .ok (.aload_n 0, 1) := by decide +kernel
theorem dX5_init_1 : decode cX5_init 1 = .ok (.invokespecial 3, 3) := by decide +kernel
theorem dX5_init_4 : decode cX5_init 4 = .ok (.aload_n 0, 1) := by decide +kernel
theorem dX5_init_5 : decode cX5_init 5 = .ok (.sipush 200, 3) := by decide +kernel
theorem dX5_init_8 : decode cX5_init 8 = .ok (.newarray .int, 2) := by decide +kernel
theorem dX5_init_10 : decode cX5_init 10 = .ok (.putfield 9, 3) := by decide +kernel
theorem dX5_init_13 : decode cX5_init 13 = .ok (.aload_n 0, 1) := by decide +kernel
theorem dX5_init_14 : decode cX5_init 14 = .ok (.iconst 0, 1) := by decide +kernel
theorem dX5_init_15 : decode cX5_init 15 = .ok (.putfield 15, 3) := by decide +kernel
theorem dX5_init_18 : decode cX5_init 18 = .ok (.aload_n 0, 1) := by decide +kernel
theorem dX5_init_19 : decode cX5_init 19 = .ok (.iconst 0, 1) := by decide +kernel
theorem dX5_init_20 : decode cX5_init 20 = .ok (.putfield 19, 3) := by decide +kernel
theorem dX5_init_23 : decode cX5_init 23 = .ok (.return_, 1) := by decide +kernel
theorem dX5_append_0 : decode cX5_append 0 = .ok (.aload_n 0, 1) := by decide +kernel
theorem dX5_append_1 : decode cX5_append 1 = .ok (.getfield 9, 3) := by decide +kernel
theorem dX5_append_4 : decode cX5_append 4 = .ok (.aload_n 0, 1) := by decide +kernel
theorem dX5_append_5 : decode cX5_append 5 = .ok (.getfield 15, 3) := by decide +kernel
theorem dX5_append_8 : decode cX5_append 8 = .ok (.aload_n 0, 1) := by decide +kernel
theorem dX5_append_9 : decode cX5_append 9 = .ok (.getfield 19, 3) := by decide +kernel
theorem dX5_append_12 : decode cX5_append 12 = .ok (.iadd, 1) := by decide +kernel
theorem dX5_append_13 : decode cX5_append 13 = .ok (.sipush 200, 3) := by decide +kernel
theorem dX5_append_16 : decode cX5_append 16 = .ok (.irem, 1) := by decide +kernel
theorem dX5_append_17 : decode cX5_append 17 = .ok (.iload_n 1, 1) := by decide +kernel
theorem dX5_append_18 : decode cX5_append 18 = .ok (.iastore, 1) := by decide +kernel
theorem dX5_append_19 : decode cX5_append 19 = .ok (.aload_n 0, 1) := by decide +kernel
theorem dX5_append_20 : decode cX5_append 20 = .ok (.getfield 19, 3) := by decide +kernel
theorem dX5_append_23 : decode cX5_append 23 = .ok (.sipush 200, 3) := by decide +kernel
theorem dX5_append_26 : decode cX5_append 26 = .ok (.if_icmp .ge 16, 3) := by decide +kernel
theorem dX5_append_29 : decode cX5_append 29 = .ok (.aload_n 0, 1) := by decide +kernel
theorem dX5_append_30 : decode cX5_append 30 = .ok (.dup, 1) := by decide +kernel
theorem dX5_append_31 : decode cX5_append 31 = .ok (.getfield 19, 3) := by decide +kernel
theorem dX5_append_34 : decode cX5_append 34 = .ok (.iconst 1, 1) := by decide +kernel
theorem dX5_append_35 : decode cX5_append 35 = .ok (.iadd, 1) := by decide +kernel
theorem dX5_append_36 : decode cX5_append 36 = .ok (.putfield 19, 3) := by decide +kernel
theorem dX5_append_39 : decode cX5_append 39 = .ok (.goto 17, 3) := by decide +kernel
theorem dX5_append_42 : decode cX5_append 42 = .ok (.aload_n 0, 1) := by decide +kernel
theorem dX5_append_43 : decode cX5_append 43 = .ok (.aload_n 0, 1) := by decide +kernel
theorem dX5_append_44 : decode cX5_append 44 = .ok (.getfield 15, 3) := by decide +kernel
theorem dX5_append_47 : decode cX5_append 47 = .ok (.iconst 1, 1) := by decide +kernel
theorem dX5_append_48 : decode cX5_append 48 = .ok (.iadd, 1) := by decide +kernel
theorem dX5_append_49 : decode cX5_append 49 = .ok (.sipush 200, 3) := by decide +kernel
theorem dX5_append_52 : decode cX5_append 52 = .ok (.irem, 1) := by decide +kernel
theorem dX5_append_53 : decode cX5_append 53 = .ok (.putfield 15, 3) := by decide +kernel
theorem dX5_append_56 : decode cX5_append 56 = .ok (.return_, 1) := by decide +kernel
theorem dX5_numberAt_0 : decode cX5_numberAt 0 = .ok (.aload_n 0, 1) := by decide +kernel
theorem dX5_numberAt_1 : decode cX5_numberAt 1 = .ok (.getfield 9, 3) := by decide +kernel
theorem dX5_numberAt_4 : decode cX5_numberAt 4 = .ok (.aload_n 0, 1) := by decide +kernel
theorem dX5_numberAt_5 : decode cX5_numberAt 5 = .ok (.getfield 15, 3) := by decide +kernel
theorem dX5_numberAt_8 : decode cX5_numberAt 8 = .ok (.iload_n 1, 1) := by decide +kernel
theorem dX5_numberAt_9 : decode cX5_numberAt 9 = .ok (.iadd, 1) := by decide +kernel
theorem dX5_numberAt_10 : decode cX5_numberAt 10 = .ok (.sipush 200, 3) := by decide +kernel
theorem dX5_numberAt_13 : decode cX5_numberAt 13 = .ok (.irem, 1) := by decide +kernel
theorem dX5_numberAt_14 : decode cX5_numberAt 14 = .ok (.iaload, 1) := by decide +kernel
theorem dX5_numberAt_15 : decode cX5_numberAt 15 = .ok (.ireturn, 1) := by decide +kernel
theorem dX6_init_0 : decode cX6_init 0 = .ok (.aload_n 0, 1) := by decide +kernel
theorem dX6_init_1 : decode cX6_init 1 = .ok (.invokespecial 3, 3) := by decide +kernel
theorem dX6_init_4 : decode cX6_init 4 = .ok (.aload_n 0, 1) := by decide +kernel
theorem dX6_init_5 : decode cX6_init 5 = .ok (.bipush 16, 2) := by decide +kernel
theorem dX6_init_7 : decode cX6_init 7 = .ok (.newarray .long, 2) := by decide +kernel
theorem dX6_init_9 : decode cX6_init 9 = .ok (.putfield 9, 3) := by decide +kernel
theorem dX6_init_12 : decode cX6_init 12 = .ok (.aload_n 0, 1) := by decide +kernel
theorem dX6_init_13 : decode cX6_init 13 = .ok (.bipush 40, 2) := by decide +kernel
theorem dX6_init_15 : decode cX6_init 15 = .ok (.newarray .int, 2) := by decide +kernel
theorem dX6_init_17 : decode cX6_init 17 = .ok (.putfield 15, 3) := by decide +kernel
theorem dX6_init_20 : decode cX6_init 20 = .ok (.aload_n 0, 1) := by decide +kernel
theorem dX6_init_21 : decode cX6_init 21 = .ok (.bipush 24, 2) := by decide +kernel
theorem dX6_init_23 : decode cX6_init 23 = .ok (.newarray .int, 2) := by decide +kernel
theorem dX6_init_25 : decode cX6_init 25 = .ok (.putfield 19, 3) := by decide +kernel
theorem dX6_init_28 : decode cX6_init 28 = .ok (.aload_n 0, 1) := by decide +kernel
theorem dX6_init_29 : decode cX6_init 29 = .ok (.bipush 24, 2) := by decide +kernel
theorem dX6_init_31 : decode cX6_init 31 = .ok (.newarray .int, 2) := by decide +kernel
theorem dX6_init_33 : decode cX6_init 33 = .ok (.putfield 22, 3) := by decide +kernel
theorem dX6_init_36 : decode cX6_init 36 = .ok (.aload_n 0, 1) := by decide +kernel
theorem dX6_init_37 : decode cX6_init 37 = .ok (.bipush 24, 2) := by decide +kernel
theorem dX6_init_39 : decode cX6_init 39 = .ok (.newarray .int, 2) := by decide +kernel
theorem dX6_init_41 : decode cX6_init 41 = .ok (.putfield 25, 3) := by decide +kernel
theorem dX6_init_44 : decode cX6_init 44 = .ok (.aload_n 0, 1) := by decide +kernel
theorem dX6_init_45 : decode cX6_init 45 = .ok (.bipush 24, 2) := by decide +kernel
theorem dX6_init_47 : decode cX6_init 47 = .ok (.newarray .int, 2) := by decide +kernel
theorem dX6_init_49 : decode cX6_init 49 = .ok (.putfield 28, 3) := by decide +kernel
theorem dX6_init_52 : decode cX6_init 52 = .ok (.aload_n 0, 1) := by decide +kernel
theorem dX6_init_53 : decode cX6_init 53 = .ok (.sipush 384, 3) := by decide +kernel
theorem dX6_init_56 : decode cX6_init 56 = .ok (.newarray .long, 2) := by decide +kernel
theorem dX6_init_58 : decode cX6_init 58 = .ok (.putfield 31, 3) := by decide +kernel
theorem dX6_init_61 : decode cX6_init 61 = .ok (.aload_n 0, 1) := by decide +kernel
theorem dX6_init_62 : decode cX6_init 62 = .ok (.new 34, 3) := by decide +kernel
theorem dX6_init_65 : decode cX6_init 65 = .ok (.dup, 1) := by decide +kernel
theorem dX6_init_66 : decode cX6_init 66 = .ok (.invokespecial 36, 3) := by decide +kernel
theorem dX6_init_69 : decode cX6_init 69 = .ok (.putfield 37, 3) := by decide +kernel
theorem dX6_init_72 : decode cX6_init 72 = .ok (.aload_n 0, 1) := by decide +kernel
theorem dX6_init_73 : decode cX6_init 73 = .ok (.iconst 1, 1) := by decide +kernel
theorem dX6_init_74 : decode cX6_init 74 = .ok (.putfield 41, 3) := by decide +kernel
theorem dX6_init_77 : decode cX6_init 77 = .ok (.aload_n 0, 1) := by decide +kernel
theorem dX6_init_78 : decode cX6_init 78 = .ok (.iconst 0, 1) := by decide +kernel
theorem dX6_init_79 : decode cX6_init 79 = .ok (.putfield 45, 3) := by decide +kernel
theorem dX6_init_82 : decode cX6_init 82 = .ok (.aload_n 0, 1) := by decide +kernel
theorem dX6_init_83 : decode cX6_init 83 = .ok (.iconst 0, 1) := by decide +kernel
theorem dX6_init_84 : decode cX6_init 84 = .ok (.putfield 48, 3) := by decide +kernel
theorem dX6_init_87 : decode cX6_init 87 = .ok (.aload_n 0, 1) := by decide +kernel
theorem dX6_init_88 : decode cX6_init 88 = .ok (.iconst 0, 1) := by decide +kernel
theorem dX6_init_89 : decode cX6_init 89 = .ok (.putfield 51, 3) := by decide +kernel
theorem dX6_init_92 : decode cX6_init 92 = .ok (.aload_n 0, 1) := by decide +kernel
theorem dX6_init_93 : decode cX6_init 93 = .ok (.iconst (-1), 1) := by decide +kernel
theorem dX6_init_94 : decode cX6_init 94 = .ok (.putfield 54, 3) := by decide +kernel
theorem dX6_init_97 : decode cX6_init 97 = .ok (.aload_n 0, 1) := by decide +kernel
theorem dX6_init_98 : decode cX6_init 98 = .ok (.iload_n 1, 1) := by decide +kernel
theorem dX6_init_99 : decode cX6_init 99 = .ok (.putfield 57, 3) := by decide +kernel
theorem dX6_init_102 : decode cX6_init 102 = .ok (.return_, 1) := by decide +kernel
theorem dX6_isInTransaction_0 : decode cX6_isInTransaction 0 = .ok (.aload_n 0, 1) := by decide +kernel
theorem dX6_isInTransaction_1 : decode cX6_isInTransaction 1 = .ok (.getfield 54, 3) := by decide +kernel
theorem dX6_isInTransaction_4 : decode cX6_isInTransaction 4 = .ok (.ifCond .lt 7, 3) := by decide +kernel
theorem dX6_isInTransaction_7 : decode cX6_isInTransaction 7 = .ok (.iconst 1, 1) := by decide +kernel
theorem dX6_isInTransaction_8 : decode cX6_isInTransaction 8 = .ok (.goto 4, 3) := by decide +kernel
theorem dX6_isInTransaction_11 : decode cX6_isInTransaction 11 = .ok (.iconst 0, 1) := by decide +kernel
theorem dX6_isInTransaction_12 : decode cX6_isInTransaction 12 = .ok (.ireturn, 1) := by decide +kernel
theorem dX6_callsOfInnermostNest_0 : decode cX6_callsOfInnermostNest 0 = .ok (.aload_n 0, 1) := by decide +kernel
theorem dX6_callsOfInnermostNest_1 : decode cX6_callsOfInnermostNest 1 = .ok (.getfield 51, 3) := by decide +kernel
theorem dX6_callsOfInnermostNest_4 : decode cX6_callsOfInnermostNest 4 = .ok (.ifCond .le 17, 3) := by decide +kernel
theorem dX6_callsOfInnermostNest_7 : decode cX6_callsOfInnermostNest 7 = .ok (.aload_n 0, 1) := by decide +kernel
theorem dX6_callsOfInnermostNest_8 : decode cX6_callsOfInnermostNest 8 = .ok (.getfield 25, 3) := by decide +kernel
theorem dX6_callsOfInnermostNest_11 : decode cX6_callsOfInnermostNest 11 = .ok (.aload_n 0, 1) := by decide +kernel
theorem dX6_callsOfInnermostNest_12 : decode cX6_callsOfInnermostNest 12 = .ok (.getfield 51, 3) := by decide +kernel
theorem dX6_callsOfInnermostNest_15 : decode cX6_callsOfInnermostNest 15 = .ok (.iconst 1, 1) := by decide +kernel
theorem dX6_callsOfInnermostNest_16 : decode cX6_callsOfInnermostNest 16 = .ok (.isub, 1) := by decide +kernel
theorem dX6_callsOfInnermostNest_17 : decode cX6_callsOfInnermostNest 17 = .ok (.iaload, 1) := by decide +kernel
theorem dX6_callsOfInnermostNest_18 : decode cX6_callsOfInnermostNest 18 = .ok (.goto 4, 3) := by decide +kernel
theorem dX6_callsOfInnermostNest_21 : decode cX6_callsOfInnermostNest 21 = .ok (.iconst 0, 1) := by decide +kernel
theorem dX6_callsOfInnermostNest_22 : decode cX6_callsOfInnermostNest 22 = .ok (.ireturn, 1) := by decide +kernel
theorem dX6_enter_0 : decode cX6_enter 0 = .ok (.aload_n 0, 1) := by decide +kernel
theorem dX6_enter_1 : decode cX6_enter 1 = .ok (.getfield 15, 3) := by decide +kernel
theorem dX6_enter_4 : decode cX6_enter 4 = .ok (.aload_n 0, 1) := by decide +kernel
theorem dX6_enter_5 : decode cX6_enter 5 = .ok (.getfield 48, 3) := by decide +kernel
theorem dX6_enter_8 : decode cX6_enter 8 = .ok (.aload_n 0, 1) := by decide +kernel
theorem dX6_enter_9 : decode cX6_enter 9 = .ok (.getfield 57, 3) := by decide +kernel
theorem dX6_enter_12 : decode cX6_enter 12 = .ok (.iastore, 1) := by decide +kernel
theorem dX6_enter_13 : decode cX6_enter 13 = .ok (.aload_n 0, 1) := by decide +kernel
theorem dX6_enter_14 : decode cX6_enter 14 = .ok (.dup, 1) := by decide +kernel
theorem dX6_enter_15 : decode cX6_enter 15 = .ok (.getfield 48, 3) := by decide +kernel
theorem dX6_enter_18 : decode cX6_enter 18 = .ok (.iconst 1, 1) := by decide +kernel
theorem dX6_enter_19 : decode cX6_enter 19 = .ok (.iadd, 1) := by decide +kernel
theorem dX6_enter_20 : decode cX6_enter 20 = .ok (.putfield 48, 3) := by decide +kernel
theorem dX6_enter_23 : decode cX6_enter 23 = .ok (.aload_n 0, 1) := by decide +kernel
theorem dX6_enter_24 : decode cX6_enter 24 = .ok (.iload_n 1, 1) := by decide +kernel
theorem dX6_enter_25 : decode cX6_enter 25 = .ok (.putfield 57, 3) := by decide +kernel
theorem dX6_enter_28 : decode cX6_enter 28 = .ok (.return_, 1) := by decide +kernel
theorem dX6_leave_0 : decode cX6_leave 0 = .ok (.aload_n 0, 1) := by decide +kernel
theorem dX6_leave_1 : decode cX6_leave 1 = .ok (.dup, 1) := by decide +kernel
theorem dX6_leave_2 : decode cX6_leave 2 = .ok (.getfield 48, 3) := by decide +kernel
theorem dX6_leave_5 : decode cX6_leave 5 = .ok (.iconst 1, 1) := by decide +kernel
theorem dX6_leave_6 : decode cX6_leave 6 = .ok (.isub, 1) := by decide +kernel
theorem dX6_leave_7 : decode cX6_leave 7 = .ok (.putfield 48, 3) := by decide +kernel
theorem dX6_leave_10 : decode cX6_leave 10 = .ok (.aload_n 0, 1) := by decide +kernel
theorem dX6_leave_11 : decode cX6_leave 11 = .ok (.aload_n 0, 1) := by decide +kernel
theorem dX6_leave_12 : decode cX6_leave 12 = .ok (.getfield 15, 3) := by decide +kernel
theorem dX6_leave_15 : decode cX6_leave 15 = .ok (.aload_n 0, 1) := by decide +kernel
theorem dX6_leave_16 : decode cX6_leave 16 = .ok (.getfield 48, 3) := by decide +kernel
theorem dX6_leave_19 : decode cX6_leave 19 = .ok (.iaload, 1) := by decide +kernel
theorem dX6_leave_20 : decode cX6_leave 20 = .ok (.putfield 57, 3) := by decide +kernel
theorem dX6_leave_23 : decode cX6_leave 23 = .ok (.return_, 1) := by decide +kernel
theorem dX6_openNest_0 : decode cX6_openNest 0 = .ok (.iload_n 1, 1) := by decide +kernel
theorem dX6_openNest_1 : decode cX6_openNest 1 = .ok (.ifCond .ne 11, 3) := by decide +kernel
theorem dX6_openNest_4 : decode cX6_openNest 4 = .ok (.aload_n 0, 1) := by decide +kernel
theorem dX6_openNest_5 : decode cX6_openNest 5 = .ok (.aload_n 0, 1) := by decide +kernel
theorem dX6_openNest_6 : decode cX6_openNest 6 = .ok (.getfield 51, 3) := by decide +kernel
theorem dX6_openNest_9 : decode cX6_openNest 9 = .ok (.putfield 54, 3) := by decide +kernel
theorem dX6_openNest_12 : decode cX6_openNest 12 = .ok (.aload_n 0, 1) := by decide +kernel
theorem dX6_openNest_13 : decode cX6_openNest 13 = .ok (.getfield 19, 3) := by decide +kernel
theorem dX6_openNest_16 : decode cX6_openNest 16 = .ok (.aload_n 0, 1) := by decide +kernel
theorem dX6_openNest_17 : decode cX6_openNest 17 = .ok (.getfield 51, 3) := by decide +kernel
theorem dX6_openNest_20 : decode cX6_openNest 20 = .ok (.iload_n 1, 1) := by decide +kernel
theorem dX6_openNest_21 : decode cX6_openNest 21 = .ok (.iastore, 1) := by decide +kernel
theorem dX6_openNest_22 : decode cX6_openNest 22 = .ok (.aload_n 0, 1) := by decide +kernel
theorem dX6_openNest_23 : decode cX6_openNest 23 = .ok (.getfield 22, 3) := by decide +kernel
theorem dX6_openNest_26 : decode cX6_openNest 26 = .ok (.aload_n 0, 1) := by decide +kernel
theorem dX6_openNest_27 : decode cX6_openNest 27 = .ok (.getfield 51, 3) := by decide +kernel
theorem dX6_openNest_30 : decode cX6_openNest 30 = .ok (.iload_n 2, 1) := by decide +kernel
theorem dX6_openNest_31 : decode cX6_openNest 31 = .ok (.iastore, 1) := by decide +kernel
theorem dX6_openNest_32 : decode cX6_openNest 32 = .ok (.aload_n 0, 1) := by decide +kernel
theorem dX6_openNest_33 : decode cX6_openNest 33 = .ok (.getfield 25, 3) := by decide +kernel
theorem dX6_openNest_36 : decode cX6_openNest 36 = .ok (.aload_n 0, 1) := by decide +kernel
theorem dX6_openNest_37 : decode cX6_openNest 37 = .ok (.getfield 51, 3) := by decide +kernel
theorem dX6_openNest_40 : decode cX6_openNest 40 = .ok (.aload_n 0, 1) := by decide +kernel
theorem dX6_openNest_41 : decode cX6_openNest 41 = .ok (.getfield 48, 3) := by decide +kernel
theorem dX6_openNest_44 : decode cX6_openNest 44 = .ok (.iastore, 1) := by decide +kernel
theorem dX6_openNest_45 : decode cX6_openNest 45 = .ok (.aload_n 0, 1) := by decide +kernel
theorem dX6_openNest_46 : decode cX6_openNest 46 = .ok (.getfield 28, 3) := by decide +kernel
theorem dX6_openNest_49 : decode cX6_openNest 49 = .ok (.aload_n 0, 1) := by decide +kernel
theorem dX6_openNest_50 : decode cX6_openNest 50 = .ok (.getfield 51, 3) := by decide +kernel
theorem dX6_openNest_53 : decode cX6_openNest 53 = .ok (.aload_n 0, 1) := by decide +kernel
theorem dX6_openNest_54 : decode cX6_openNest 54 = .ok (.getfield 37, 3) := by decide +kernel
theorem dX6_openNest_57 : decode cX6_openNest 57 = .ok (.getfield 60, 3) := by decide +kernel
theorem dX6_openNest_60 : decode cX6_openNest 60 = .ok (.iastore, 1) := by decide +kernel
theorem dX6_openNest_61 : decode cX6_openNest 61 = .ok (.aload_n 0, 1) := by decide +kernel
theorem dX6_openNest_62 : decode cX6_openNest 62 = .ok (.getfield 9, 3) := by decide +kernel
theorem dX6_openNest_65 : decode cX6_openNest 65 = .ok (.iconst 0, 1) := by decide +kernel
theorem dX6_openNest_66 : decode cX6_openNest 66 = .ok (.aload_n 0, 1) := by decide +kernel
theorem dX6_openNest_67 : decode cX6_openNest 67 = .ok (.getfield 31, 3) := by decide +kernel
theorem dX6_openNest_70 : decode cX6_openNest 70 = .ok (.aload_n 0, 1) := by decide +kernel
theorem dX6_openNest_71 : decode cX6_openNest 71 = .ok (.getfield 51, 3) := by decide +kernel
theorem dX6_openNest_74 : decode cX6_openNest 74 = .ok (.bipush 16, 2) := by decide +kernel
theorem dX6_openNest_76 : decode cX6_openNest 76 = .ok (.imul, 1) := by decide +kernel
theorem dX6_openNest_77 : decode cX6_openNest 77 = .ok (.bipush 16, 2) := by decide +kernel
theorem dX6_openNest_79 : decode cX6_openNest 79 = .ok (.invokestatic 63, 3) := by decide +kernel
theorem dX6_openNest_82 : decode cX6_openNest 82 = .ok (.aload_n 0, 1) := by decide +kernel
theorem dX6_openNest_83 : decode cX6_openNest 83 = .ok (.dup, 1) := by decide +kernel
theorem dX6_openNest_84 : decode cX6_openNest 84 = .ok (.getfield 51, 3) := by decide +kernel
theorem dX6_openNest_87 : decode cX6_openNest 87 = .ok (.iconst 1, 1) := by decide +kernel
theorem dX6_openNest_88 : decode cX6_openNest 88 = .ok (.iadd, 1) := by decide +kernel
theorem dX6_openNest_89 : decode cX6_openNest 89 = .ok (.putfield 51, 3) := by decide +kernel
theorem dX6_openNest_92 : decode cX6_openNest 92 = .ok (.return_, 1) := by decide +kernel
theorem dX6_dropNestsTo_0 : decode cX6_dropNestsTo 0 = .ok (.aload_n 0, 1) := by decide +kernel
theorem dX6_dropNestsTo_1 : decode cX6_dropNestsTo 1 = .ok (.iload_n 1, 1) := by decide +kernel
theorem dX6_dropNestsTo_2 : decode cX6_dropNestsTo 2 = .ok (.putfield 51, 3) := by decide +kernel
theorem dX6_dropNestsTo_5 : decode cX6_dropNestsTo 5 = .ok (.aload_n 0, 1) := by decide +kernel
theorem dX6_dropNestsTo_6 : decode cX6_dropNestsTo 6 = .ok (.getfield 54, 3) := by decide +kernel
theorem dX6_dropNestsTo_9 : decode cX6_dropNestsTo 9 = .ok (.iload_n 1, 1) := by decide +kernel
theorem dX6_dropNestsTo_10 : decode cX6_dropNestsTo 10 = .ok (.if_icmp .lt 8, 3) := by decide +kernel
theorem dX6_dropNestsTo_13 : decode cX6_dropNestsTo 13 = .ok (.aload_n 0, 1) := by decide +kernel
theorem dX6_dropNestsTo_14 : decode cX6_dropNestsTo 14 = .ok (.iconst (-1), 1) := by decide +kernel
theorem dX6_dropNestsTo_15 : decode cX6_dropNestsTo 15 = .ok (.putfield 54, 3) := by decide +kernel
theorem dX6_dropNestsTo_18 : decode cX6_dropNestsTo 18 = .ok (.return_, 1) := by decide +kernel
theorem dX6_restore_0 : decode cX6_restore 0 = .ok (.aload_n 0, 1) := by decide +kernel
theorem dX6_restore_1 : decode cX6_restore 1 = .ok (.aload_n 0, 1) := by decide +kernel
theorem dX6_restore_2 : decode cX6_restore 2 = .ok (.getfield 25, 3) := by decide +kernel
theorem dX6_restore_5 : decode cX6_restore 5 = .ok (.iload_n 1, 1) := by decide +kernel
theorem dX6_restore_6 : decode cX6_restore 6 = .ok (.iaload, 1) := by decide +kernel
theorem dX6_restore_7 : decode cX6_restore 7 = .ok (.putfield 48, 3) := by decide +kernel
theorem dX6_restore_10 : decode cX6_restore 10 = .ok (.aload_n 0, 1) := by decide +kernel
theorem dX6_restore_11 : decode cX6_restore 11 = .ok (.aload_n 0, 1) := by decide +kernel
theorem dX6_restore_12 : decode cX6_restore 12 = .ok (.getfield 22, 3) := by decide +kernel
theorem dX6_restore_15 : decode cX6_restore 15 = .ok (.iload_n 1, 1) := by decide +kernel
theorem dX6_restore_16 : decode cX6_restore 16 = .ok (.iaload, 1) := by decide +kernel
theorem dX6_restore_17 : decode cX6_restore 17 = .ok (.putfield 57, 3) := by decide +kernel
theorem dX6_restore_20 : decode cX6_restore 20 = .ok (.aload_n 0, 1) := by decide +kernel
theorem dX6_restore_21 : decode cX6_restore 21 = .ok (.getfield 31, 3) := by decide +kernel
theorem dX6_restore_24 : decode cX6_restore 24 = .ok (.iload_n 1, 1) := by decide +kernel
theorem dX6_restore_25 : decode cX6_restore 25 = .ok (.bipush 16, 2) := by decide +kernel
theorem dX6_restore_27 : decode cX6_restore 27 = .ok (.imul, 1) := by decide +kernel
theorem dX6_restore_28 : decode cX6_restore 28 = .ok (.aload_n 0, 1) := by decide +kernel
theorem dX6_restore_29 : decode cX6_restore 29 = .ok (.getfield 9, 3) := by decide +kernel
theorem dX6_restore_32 : decode cX6_restore 32 = .ok (.iconst 0, 1) := by decide +kernel
theorem dX6_restore_33 : decode cX6_restore 33 = .ok (.bipush 16, 2) := by decide +kernel
theorem dX6_restore_35 : decode cX6_restore 35 = .ok (.invokestatic 63, 3) := by decide +kernel
theorem dX6_restore_38 : decode cX6_restore 38 = .ok (.return_, 1) := by decide +kernel
theorem dX6_rollBackTo_0 : decode cX6_rollBackTo 0 = .ok (.aload_n 0, 1) := by decide +kernel
theorem dX6_rollBackTo_1 : decode cX6_rollBackTo 1 = .ok (.iload_n 1, 1) := by decide +kernel
theorem dX6_rollBackTo_2 : decode cX6_rollBackTo 2 = .ok (.invokevirtual 69, 3) := by decide +kernel
theorem dX6_rollBackTo_5 : decode cX6_rollBackTo 5 = .ok (.aload_n 0, 1) := by decide +kernel
theorem dX6_rollBackTo_6 : decode cX6_rollBackTo 6 = .ok (.getfield 37, 3) := by decide +kernel
theorem dX6_rollBackTo_9 : decode cX6_rollBackTo 9 = .ok (.aload_n 0, 1) := by decide +kernel
theorem dX6_rollBackTo_10 : decode cX6_rollBackTo 10 = .ok (.getfield 28, 3) := by decide +kernel
theorem dX6_rollBackTo_13 : decode cX6_rollBackTo 13 = .ok (.iload_n 1, 1) := by decide +kernel
theorem dX6_rollBackTo_14 : decode cX6_rollBackTo 14 = .ok (.iaload, 1) := by decide +kernel
theorem dX6_rollBackTo_15 : decode cX6_rollBackTo 15 = .ok (.putfield 60, 3) := by decide +kernel
theorem dX6_rollBackTo_18 : decode cX6_rollBackTo 18 = .ok (.aload_n 0, 1) := by decide +kernel
theorem dX6_rollBackTo_19 : decode cX6_rollBackTo 19 = .ok (.iload_n 1, 1) := by decide +kernel
theorem dX6_rollBackTo_20 : decode cX6_rollBackTo 20 = .ok (.invokevirtual 73, 3) := by decide +kernel
theorem dX6_rollBackTo_23 : decode cX6_rollBackTo 23 = .ok (.return_, 1) := by decide +kernel
theorem dX6_beginAgain_0 : decode cX6_beginAgain 0 = .ok (.aload_n 0, 1) := by decide +kernel
theorem dX6_beginAgain_1 : decode cX6_beginAgain 1 = .ok (.aload_n 0, 1) := by decide +kernel
theorem dX6_beginAgain_2 : decode cX6_beginAgain 2 = .ok (.getfield 54, 3) := by decide +kernel
theorem dX6_beginAgain_5 : decode cX6_beginAgain 5 = .ok (.invokevirtual 69, 3) := by decide +kernel
theorem dX6_beginAgain_8 : decode cX6_beginAgain 8 = .ok (.aload_n 0, 1) := by decide +kernel
theorem dX6_beginAgain_9 : decode cX6_beginAgain 9 = .ok (.aload_n 0, 1) := by decide +kernel
theorem dX6_beginAgain_10 : decode cX6_beginAgain 10 = .ok (.getfield 54, 3) := by decide +kernel
theorem dX6_beginAgain_13 : decode cX6_beginAgain 13 = .ok (.iconst 1, 1) := by decide +kernel
theorem dX6_beginAgain_14 : decode cX6_beginAgain 14 = .ok (.iadd, 1) := by decide +kernel
theorem dX6_beginAgain_15 : decode cX6_beginAgain 15 = .ok (.invokevirtual 73, 3) := by decide +kernel
theorem dX6_beginAgain_18 : decode cX6_beginAgain 18 = .ok (.aload_n 0, 1) := by decide +kernel
theorem dX6_beginAgain_19 : decode cX6_beginAgain 19 = .ok (.getfield 37, 3) := by decide +kernel
theorem dX6_beginAgain_22 : decode cX6_beginAgain 22 = .ok (.iload_n 1, 1) := by decide +kernel
theorem dX6_beginAgain_23 : decode cX6_beginAgain 23 = .ok (.invokevirtual 76, 3) := by decide +kernel
theorem dX6_beginAgain_26 : decode cX6_beginAgain 26 = .ok (.return_, 1) := by decide +kernel
theorem dX6_fail_0 : decode cX6_fail 0 = .ok (.aload_n 0, 1) := by decide +kernel
theorem dX6_fail_1 : decode cX6_fail 1 = .ok (.iconst 4, 1) := by decide +kernel
theorem dX6_fail_2 : decode cX6_fail 2 = .ok (.putfield 41, 3) := by decide +kernel
theorem dX6_fail_5 : decode cX6_fail 5 = .ok (.aload_n 0, 1) := by decide +kernel
theorem dX6_fail_6 : decode cX6_fail 6 = .ok (.iload_n 1, 1) := by decide +kernel
theorem dX6_fail_7 : decode cX6_fail 7 = .ok (.putfield 45, 3) := by decide +kernel
theorem dX6_fail_10 : decode cX6_fail 10 = .ok (.aload_n 0, 1) := by decide +kernel
theorem dX6_fail_11 : decode cX6_fail 11 = .ok (.iconst 0, 1) := by decide +kernel
theorem dX6_fail_12 : decode cX6_fail 12 = .ok (.invokevirtual 73, 3) := by decide +kernel
theorem dX6_fail_15 : decode cX6_fail 15 = .ok (.aload_n 0, 1) := by decide +kernel
theorem dX6_fail_16 : decode cX6_fail 16 = .ok (.getfield 37, 3) := by decide +kernel
theorem dX6_fail_19 : decode cX6_fail 19 = .ok (.invokevirtual 79, 3) := by decide +kernel
theorem dX6_fail_22 : decode cX6_fail 22 = .ok (.return_, 1) := by decide +kernel
theorem dX6_registersKept_0 : decode cX6_registersKept 0 = .ok (.aload_n 0, 1) := by decide +kernel
theorem dX6_registersKept_1 : decode cX6_registersKept 1 = .ok (.getfield 41, 3) := by decide +kernel
theorem dX6_registersKept_4 : decode cX6_registersKept 4 = .ok (.iconst 3, 1) := by decide +kernel
theorem dX6_registersKept_5 : decode cX6_registersKept 5 = .ok (.if_icmp .ne 7, 3) := by decide +kernel
theorem dX6_registersKept_8 : decode cX6_registersKept 8 = .ok (.iconst 1, 1) := by decide +kernel
theorem dX6_registersKept_9 : decode cX6_registersKept 9 = .ok (.goto 17, 3) := by decide +kernel
theorem dX6_registersKept_12 : decode cX6_registersKept 12 = .ok (.aload_n 0, 1) := by decide +kernel
theorem dX6_registersKept_13 : decode cX6_registersKept 13 = .ok (.getfield 41, 3) := by decide +kernel
theorem dX6_registersKept_16 : decode cX6_registersKept 16 = .ok (.iconst 4, 1) := by decide +kernel
theorem dX6_registersKept_17 : decode cX6_registersKept 17 = .ok (.if_icmp .ne 7, 3) := by decide +kernel
theorem dX6_registersKept_20 : decode cX6_registersKept 20 = .ok (.iconst 0, 1) := by decide +kernel
theorem dX6_registersKept_21 : decode cX6_registersKept 21 = .ok (.goto 5, 3) := by decide +kernel
theorem dX6_registersKept_24 : decode cX6_registersKept 24 = .ok (.bipush 16, 2) := by decide +kernel
theorem dX6_registersKept_26 : decode cX6_registersKept 26 = .ok (.ireturn, 1) := by decide +kernel
theorem dX6_forgetPlacesFrom_0 : decode cX6_forgetPlacesFrom 0 = .ok (.iload_n 1, 1) := by decide +kernel
theorem dX6_forgetPlacesFrom_1 : decode cX6_forgetPlacesFrom 1 = .ok (.istore_n 2, 1) := by decide +kernel
theorem dX6_forgetPlacesFrom_2 : decode cX6_forgetPlacesFrom 2 = .ok (.iload_n 2, 1) := by decide +kernel
theorem dX6_forgetPlacesFrom_3 : decode cX6_forgetPlacesFrom 3 = .ok (.bipush 16, 2) := by decide +kernel
theorem dX6_forgetPlacesFrom_5 : decode cX6_forgetPlacesFrom 5 = .ok (.if_icmp .ge 29, 3) := by decide +kernel
theorem dX6_forgetPlacesFrom_8 : decode cX6_forgetPlacesFrom 8 = .ok (.aload_n 0, 1) := by decide +kernel
theorem dX6_forgetPlacesFrom_9 : decode cX6_forgetPlacesFrom 9 = .ok (.getfield 9, 3) := by decide +kernel
theorem dX6_forgetPlacesFrom_12 : decode cX6_forgetPlacesFrom 12 = .ok (.iload_n 2, 1) := by decide +kernel
theorem dX6_forgetPlacesFrom_13 : decode cX6_forgetPlacesFrom 13 = .ok (.laload, 1) := by decide +kernel
theorem dX6_forgetPlacesFrom_14 : decode cX6_forgetPlacesFrom 14 = .ok (.ldc2_w 82, 3) := by decide +kernel
theorem dX6_forgetPlacesFrom_17 : decode cX6_forgetPlacesFrom 17 = .ok (.lcmp, 1) := by decide +kernel
theorem dX6_forgetPlacesFrom_18 : decode cX6_forgetPlacesFrom 18 = .ok (.ifCond .lt 10, 3) := by decide +kernel
theorem dX6_forgetPlacesFrom_21 : decode cX6_forgetPlacesFrom 21 = .ok (.aload_n 0, 1) := by decide +kernel
theorem dX6_forgetPlacesFrom_22 : decode cX6_forgetPlacesFrom 22 = .ok (.getfield 9, 3) := by decide +kernel
theorem dX6_forgetPlacesFrom_25 : decode cX6_forgetPlacesFrom 25 = .ok (.iload_n 2, 1) := by decide +kernel
theorem dX6_forgetPlacesFrom_26 : decode cX6_forgetPlacesFrom 26 = .ok (.lconst 0, 1) := by decide +kernel
theorem dX6_forgetPlacesFrom_27 : decode cX6_forgetPlacesFrom 27 = .ok (.lastore, 1) := by decide +kernel
theorem dX6_forgetPlacesFrom_28 : decode cX6_forgetPlacesFrom 28 = .ok (.iinc 2 1, 3) := by decide +kernel
theorem dX6_forgetPlacesFrom_31 : decode cX6_forgetPlacesFrom 31 = .ok (.goto (-29), 3) := by decide +kernel
theorem dX6_forgetPlacesFrom_34 : decode cX6_forgetPlacesFrom 34 = .ok (.return_, 1) := by decide +kernel
theorem dX7_init_0 : decode cX7_init 0 = .ok (.aload_n 0, 1) := by decide +kernel
theorem dX7_init_1 : decode cX7_init 1 = .ok (.invokespecial 1, 3) := by decide +kernel
theorem dX7_init_4 : decode cX7_init 4 = .ok (.aload_n 0, 1) := by decide +kernel
theorem dX7_init_5 : decode cX7_init 5 = .ok (.new 7, 3) := by decide +kernel
theorem dX7_init_8 : decode cX7_init 8 = .ok (.dup, 1) := by decide +kernel
theorem dX7_init_9 : decode cX7_init 9 = .ok (.invokespecial 9, 3) := by decide +kernel
theorem dX7_init_12 : decode cX7_init 12 = .ok (.putfield 10, 3) := by decide +kernel
theorem dX7_init_15 : decode cX7_init 15 = .ok (.aload_n 0, 1) := by decide +kernel
theorem dX7_init_16 : decode cX7_init 16 = .ok (.new 7, 3) := by decide +kernel
theorem dX7_init_19 : decode cX7_init 19 = .ok (.dup, 1) := by decide +kernel
theorem dX7_init_20 : decode cX7_init 20 = .ok (.invokespecial 9, 3) := by decide +kernel
theorem dX7_init_23 : decode cX7_init 23 = .ok (.putfield 16, 3) := by decide +kernel
theorem dX7_init_26 : decode cX7_init 26 = .ok (.aload_n 0, 1) := by decide +kernel
theorem dX7_init_27 : decode cX7_init 27 = .ok (.bipush 8, 2) := by decide +kernel
theorem dX7_init_29 : decode cX7_init 29 = .ok (.newarray .long, 2) := by decide +kernel
theorem dX7_init_31 : decode cX7_init 31 = .ok (.putfield 19, 3) := by decide +kernel
theorem dX7_init_34 : decode cX7_init 34 = .ok (.aload_n 0, 1) := by decide +kernel
theorem dX7_init_35 : decode cX7_init 35 = .ok (.new 23, 3) := by decide +kernel
theorem dX7_init_38 : decode cX7_init 38 = .ok (.dup, 1) := by decide +kernel
theorem dX7_init_39 : decode cX7_init 39 = .ok (.invokespecial 25, 3) := by decide +kernel
theorem dX7_init_42 : decode cX7_init 42 = .ok (.putfield 26, 3) := by decide +kernel
theorem dX7_init_45 : decode cX7_init 45 = .ok (.aload_n 0, 1) := by decide +kernel
theorem dX7_init_46 : decode cX7_init 46 = .ok (.new 30, 3) := by decide +kernel
theorem dX7_init_49 : decode cX7_init 49 = .ok (.dup, 1) := by decide +kernel
theorem dX7_init_50 : decode cX7_init 50 = .ok (.invokespecial 32, 3) := by decide +kernel
theorem dX7_init_53 : decode cX7_init 53 = .ok (.putfield 33, 3) := by decide +kernel
theorem dX7_init_56 : decode cX7_init 56 = .ok (.aload_n 0, 1) := by decide +kernel
theorem dX7_init_57 : decode cX7_init 57 = .ok (.iconst 0, 1) := by decide +kernel
theorem dX7_init_58 : decode cX7_init 58 = .ok (.putfield 37, 3) := by decide +kernel
theorem dX7_init_61 : decode cX7_init 61 = .ok (.aload_n 0, 1) := by decide +kernel
theorem dX7_init_62 : decode cX7_init 62 = .ok (.iconst 0, 1) := by decide +kernel
theorem dX7_init_63 : decode cX7_init 63 = .ok (.putfield 41, 3) := by decide +kernel
theorem dX7_init_66 : decode cX7_init 66 = .ok (.aload_n 0, 1) := by decide +kernel
theorem dX7_init_67 : decode cX7_init 67 = .ok (.iconst 0, 1) := by decide +kernel
theorem dX7_init_68 : decode cX7_init 68 = .ok (.putfield 44, 3) := by decide +kernel
theorem dX7_init_71 : decode cX7_init 71 = .ok (.aload_n 0, 1) := by decide +kernel
theorem dX7_init_72 : decode cX7_init 72 = .ok (.iconst 0, 1) := by decide +kernel
theorem dX7_init_73 : decode cX7_init 73 = .ok (.putfield 47, 3) := by decide +kernel
theorem dX7_init_76 : decode cX7_init 76 = .ok (.aload_n 0, 1) := by decide +kernel
theorem dX7_init_77 : decode cX7_init 77 = .ok (.getfield 16, 3) := by decide +kernel
theorem dX7_init_80 : decode cX7_init 80 = .ok (.new 50, 3) := by decide +kernel
theorem dX7_init_83 : decode cX7_init 83 = .ok (.dup, 1) := by decide +kernel
theorem dX7_init_84 : decode cX7_init 84 = .ok (.iconst 0, 1) := by decide +kernel
theorem dX7_init_85 : decode cX7_init 85 = .ok (.invokespecial 52, 3) := by decide +kernel
theorem dX7_init_88 : decode cX7_init 88 = .ok (.invokevirtual 55, 3) := by decide +kernel
theorem dX7_init_91 : decode cX7_init 91 = .ok (.pop, 1) := by decide +kernel
theorem dX7_init_92 : decode cX7_init 92 = .ok (.return_, 1) := by decide +kernel
theorem dX7_put_0 : decode cX7_put 0 = .ok (.aload_n 0, 1) := by decide +kernel
theorem dX7_put_1 : decode cX7_put 1 = .ok (.getfield 10, 3) := by decide +kernel
theorem dX7_put_4 : decode cX7_put 4 = .ok (.invokevirtual 59, 3) := by decide +kernel
theorem dX7_put_7 : decode cX7_put 7 = .ok (.istore 5, 2) := by decide +kernel
theorem dX7_put_9 : decode cX7_put 9 = .ok (.iload 5, 2) := by decide +kernel
theorem dX7_put_11 : decode cX7_put 11 = .ok (.sipush 1000, 3) := by decide +kernel
theorem dX7_put_14 : decode cX7_put 14 = .ok (.if_icmp .lt 11, 3) := by decide +kernel
theorem dX7_put_17 : decode cX7_put 17 = .ok (.new 63, 3) := by decide +kernel
theorem dX7_put_20 : decode cX7_put 20 = .ok (.dup, 1) := by decide +kernel
theorem dX7_put_21 : decode cX7_put 21 = .ok (.invokespecial 65, 3) := by decide +kernel
theorem dX7_put_24 : decode cX7_put 24 = .ok (.athrow, 1) := by decide +kernel
theorem dX7_put_25 : decode cX7_put 25 = .ok (.aload_n 0, 1) := by decide +kernel
theorem dX7_put_26 : decode cX7_put 26 = .ok (.getfield 10, 3) := by decide +kernel
theorem dX7_put_29 : decode cX7_put 29 = .ok (.new 66, 3) := by decide +kernel
theorem dX7_put_32 : decode cX7_put 32 = .ok (.dup, 1) := by decide +kernel
theorem dX7_put_33 : decode cX7_put 33 = .ok (.iload_n 1, 1) := by decide +kernel
theorem dX7_put_34 : decode cX7_put 34 = .ok (.iload_n 2, 1) := by decide +kernel
theorem dX7_put_35 : decode cX7_put 35 = .ok (.iload_n 3, 1) := by decide +kernel
theorem dX7_put_36 : decode cX7_put 36 = .ok (.iload 4, 2) := by decide +kernel
theorem dX7_put_38 : decode cX7_put 38 = .ok (.invokespecial 68, 3) := by decide +kernel
theorem dX7_put_41 : decode cX7_put 41 = .ok (.invokevirtual 55, 3) := by decide +kernel
theorem dX7_put_44 : decode cX7_put 44 = .ok (.pop, 1) := by decide +kernel
theorem dX7_put_45 : decode cX7_put 45 = .ok (.iload 5, 2) := by decide +kernel
theorem dX7_put_47 : decode cX7_put 47 = .ok (.ireturn, 1) := by decide +kernel
theorem dX7_run_0 : decode cX7_run 0 = .ok (.iload_n 1, 1) := by decide +kernel
theorem dX7_run_1 : decode cX7_run 1 = .ok (.ifCond .lt 14, 3) := by decide +kernel
theorem dX7_run_4 : decode cX7_run 4 = .ok (.iload_n 1, 1) := by decide +kernel
theorem dX7_run_5 : decode cX7_run 5 = .ok (.aload_n 0, 1) := by decide +kernel
theorem dX7_run_6 : decode cX7_run 6 = .ok (.getfield 16, 3) := by decide +kernel
theorem dX7_run_9 : decode cX7_run 9 = .ok (.invokevirtual 59, 3) := by decide +kernel
theorem dX7_run_12 : decode cX7_run 12 = .ok (.if_icmp .lt 11, 3) := by decide +kernel
theorem dX7_run_15 : decode cX7_run 15 = .ok (.new 71, 3) := by decide +kernel
theorem dX7_run_18 : decode cX7_run 18 = .ok (.dup, 1) := by decide +kernel
theorem dX7_run_19 : decode cX7_run 19 = .ok (.invokespecial 73, 3) := by decide +kernel
theorem dX7_run_22 : decode cX7_run 22 = .ok (.athrow, 1) := by decide +kernel
theorem dX7_run_23 : decode cX7_run 23 = .ok (.iload_n 2, 1) := by decide +kernel
theorem dX7_run_24 : decode cX7_run 24 = .ok (.iconst 1, 1) := by decide +kernel
theorem dX7_run_25 : decode cX7_run 25 = .ok (.if_icmp .lt 10, 3) := by decide +kernel
theorem dX7_run_28 : decode cX7_run 28 = .ok (.iload_n 2, 1) := by decide +kernel
theorem dX7_run_29 : decode cX7_run 29 = .ok (.sipush 500, 3) := by decide +kernel
theorem dX7_run_32 : decode cX7_run 32 = .ok (.if_icmp .le 11, 3) := by decide +kernel
theorem dX7_run_35 : decode cX7_run 35 = .ok (.new 74, 3) := by decide +kernel
theorem dX7_run_38 : decode cX7_run 38 = .ok (.dup, 1) := by decide +kernel
theorem dX7_run_39 : decode cX7_run 39 = .ok (.invokespecial 76, 3) := by decide +kernel
theorem dX7_run_42 : decode cX7_run 42 = .ok (.athrow, 1) := by decide +kernel
theorem dX7_run_43 : decode cX7_run 43 = .ok (.aload_n 0, 1) := by decide +kernel
theorem dX7_run_44 : decode cX7_run 44 = .ok (.getfield 16, 3) := by decide +kernel
theorem dX7_run_47 : decode cX7_run 47 = .ok (.iload_n 1, 1) := by decide +kernel
theorem dX7_run_48 : decode cX7_run 48 = .ok (.invokevirtual 77, 3) := by decide +kernel
theorem dX7_run_51 : decode cX7_run 51 = .ok (.checkcast 50, 3) := by decide +kernel
theorem dX7_run_54 : decode cX7_run 54 = .ok (.astore_n 3, 1) := by decide +kernel
theorem dX7_run_55 : decode cX7_run 55 = .ok (.iconst 0, 1) := by decide +kernel
theorem dX7_run_56 : decode cX7_run 56 = .ok (.istore 4, 2) := by decide +kernel
theorem dX7_run_58 : decode cX7_run 58 = .ok (.iload 4, 2) := by decide +kernel
theorem dX7_run_60 : decode cX7_run 60 = .ok (.iload_n 2, 1) := by decide +kernel
theorem dX7_run_61 : decode cX7_run 61 = .ok (.if_icmp .ge 22, 3) := by decide +kernel
theorem dX7_run_64 : decode cX7_run 64 = .ok (.aload_n 3, 1) := by decide +kernel
theorem dX7_run_65 : decode cX7_run 65 = .ok (.getfield 81, 3) := by decide +kernel
theorem dX7_run_68 : decode cX7_run 68 = .ok (.iconst 1, 1) := by decide +kernel
theorem dX7_run_69 : decode cX7_run 69 = .ok (.if_icmp .ne 14, 3) := by decide +kernel
theorem dX7_run_72 : decode cX7_run 72 = .ok (.aload_n 0, 1) := by decide +kernel
theorem dX7_run_73 : decode cX7_run 73 = .ok (.aload_n 3, 1) := by decide +kernel
theorem dX7_run_74 : decode cX7_run 74 = .ok (.invokevirtual 84, 3) := by decide +kernel
theorem dX7_run_77 : decode cX7_run 77 = .ok (.iinc 4 1, 3) := by decide +kernel
theorem dX7_run_80 : decode cX7_run 80 = .ok (.goto (-22), 3) := by decide +kernel
theorem dX7_run_83 : decode cX7_run 83 = .ok (.iload 4, 2) := by decide +kernel
theorem dX7_run_85 : decode cX7_run 85 = .ok (.ireturn, 1) := by decide +kernel
theorem dX7_turn_0 : decode cX7_turn 0 = .ok (.iload_n 1, 1) := by decide +kernel
theorem dX7_turn_1 : decode cX7_turn 1 = .ok (.iconst 1, 1) := by decide +kernel
theorem dX7_turn_2 : decode cX7_turn 2 = .ok (.if_icmp .lt 9, 3) := by decide +kernel
theorem dX7_turn_5 : decode cX7_turn 5 = .ok (.iload_n 1, 1) := by decide +kernel
theorem dX7_turn_6 : decode cX7_turn 6 = .ok (.bipush 100, 2) := by decide +kernel
theorem dX7_turn_8 : decode cX7_turn 8 = .ok (.if_icmp .le 11, 3) := by decide +kernel
theorem dX7_turn_11 : decode cX7_turn 11 = .ok (.new 74, 3) := by decide +kernel
theorem dX7_turn_14 : decode cX7_turn 14 = .ok (.dup, 1) := by decide +kernel
theorem dX7_turn_15 : decode cX7_turn 15 = .ok (.invokespecial 76, 3) := by decide +kernel
theorem dX7_turn_18 : decode cX7_turn 18 = .ok (.athrow, 1) := by decide +kernel
theorem dX7_turn_19 : decode cX7_turn 19 = .ok (.aload_n 0, 1) := by decide +kernel
theorem dX7_turn_20 : decode cX7_turn 20 = .ok (.getfield 47, 3) := by decide +kernel
theorem dX7_turn_23 : decode cX7_turn 23 = .ok (.istore_n 2, 1) := by decide +kernel
theorem dX7_turn_24 : decode cX7_turn 24 = .ok (.iconst 0, 1) := by decide +kernel
theorem dX7_turn_25 : decode cX7_turn 25 = .ok (.istore_n 3, 1) := by decide +kernel
theorem dX7_turn_26 : decode cX7_turn 26 = .ok (.iload_n 3, 1) := by decide +kernel
theorem dX7_turn_27 : decode cX7_turn 27 = .ok (.iload_n 1, 1) := by decide +kernel
theorem dX7_turn_28 : decode cX7_turn 28 = .ok (.if_icmp .ge 66, 3) := by decide +kernel
theorem dX7_turn_31 : decode cX7_turn 31 = .ok (.iconst 0, 1) := by decide +kernel
theorem dX7_turn_32 : decode cX7_turn 32 = .ok (.istore 4, 2) := by decide +kernel
theorem dX7_turn_34 : decode cX7_turn 34 = .ok (.iload 4, 2) := by decide +kernel
theorem dX7_turn_36 : decode cX7_turn 36 = .ok (.aload_n 0, 1) := by decide +kernel
theorem dX7_turn_37 : decode cX7_turn 37 = .ok (.getfield 16, 3) := by decide +kernel
theorem dX7_turn_40 : decode cX7_turn 40 = .ok (.invokevirtual 59, 3) := by decide +kernel
theorem dX7_turn_43 : decode cX7_turn 43 = .ok (.if_icmp .ge 45, 3) := by decide +kernel
theorem dX7_turn_46 : decode cX7_turn 46 = .ok (.iload 4, 2) := by decide +kernel
theorem dX7_turn_48 : decode cX7_turn 48 = .ok (.bipush 16, 2) := by decide +kernel
theorem dX7_turn_50 : decode cX7_turn 50 = .ok (.if_icmp .ge 38, 3) := by decide +kernel
theorem dX7_turn_53 : decode cX7_turn 53 = .ok (.aload_n 0, 1) := by decide +kernel
theorem dX7_turn_54 : decode cX7_turn 54 = .ok (.getfield 16, 3) := by decide +kernel
theorem dX7_turn_57 : decode cX7_turn 57 = .ok (.iload 4, 2) := by decide +kernel
theorem dX7_turn_59 : decode cX7_turn 59 = .ok (.invokevirtual 77, 3) := by decide +kernel
theorem dX7_turn_62 : decode cX7_turn 62 = .ok (.checkcast 50, 3) := by decide +kernel
theorem dX7_turn_65 : decode cX7_turn 65 = .ok (.astore 5, 2) := by decide +kernel
theorem dX7_turn_67 : decode cX7_turn 67 = .ok (.aload 5, 2) := by decide +kernel
theorem dX7_turn_69 : decode cX7_turn 69 = .ok (.getfield 81, 3) := by decide +kernel
theorem dX7_turn_72 : decode cX7_turn 72 = .ok (.iconst 1, 1) := by decide +kernel
theorem dX7_turn_73 : decode cX7_turn 73 = .ok (.if_icmp .ne 9, 3) := by decide +kernel
theorem dX7_turn_76 : decode cX7_turn 76 = .ok (.aload_n 0, 1) := by decide +kernel
theorem dX7_turn_77 : decode cX7_turn 77 = .ok (.aload 5, 2) := by decide +kernel
theorem dX7_turn_79 : decode cX7_turn 79 = .ok (.invokevirtual 84, 3) := by decide +kernel
theorem dX7_turn_82 : decode cX7_turn 82 = .ok (.iinc 4 1, 3) := by decide +kernel
theorem dX7_turn_85 : decode cX7_turn 85 = .ok (.goto (-51), 3) := by decide +kernel
theorem dX7_turn_88 : decode cX7_turn 88 = .ok (.iinc 3 1, 3) := by decide +kernel
theorem dX7_turn_91 : decode cX7_turn 91 = .ok (.goto (-65), 3) := by decide +kernel
theorem dX7_turn_94 : decode cX7_turn 94 = .ok (.aload_n 0, 1) := by decide +kernel
theorem dX7_turn_95 : decode cX7_turn 95 = .ok (.getfield 47, 3) := by decide +kernel
theorem dX7_turn_98 : decode cX7_turn 98 = .ok (.iload_n 2, 1) := by decide +kernel
theorem dX7_turn_99 : decode cX7_turn 99 = .ok (.isub, 1) := by decide +kernel
theorem dX7_turn_100 : decode cX7_turn 100 = .ok (.ireturn, 1) := by decide +kernel
theorem dX7_thread_0 : decode cX7_thread 0 = .ok (.iload_n 1, 1) := by decide +kernel
theorem dX7_thread_1 : decode cX7_thread 1 = .ok (.ifCond .lt 14, 3) := by decide +kernel
theorem dX7_thread_4 : decode cX7_thread 4 = .ok (.iload_n 1, 1) := by decide +kernel
theorem dX7_thread_5 : decode cX7_thread 5 = .ok (.aload_n 0, 1) := by decide +kernel
theorem dX7_thread_6 : decode cX7_thread 6 = .ok (.getfield 16, 3) := by decide +kernel
theorem dX7_thread_9 : decode cX7_thread 9 = .ok (.invokevirtual 59, 3) := by decide +kernel
theorem dX7_thread_12 : decode cX7_thread 12 = .ok (.if_icmp .lt 11, 3) := by decide +kernel
theorem dX7_thread_15 : decode cX7_thread 15 = .ok (.new 71, 3) := by decide +kernel
theorem dX7_thread_18 : decode cX7_thread 18 = .ok (.dup, 1) := by decide +kernel
theorem dX7_thread_19 : decode cX7_thread 19 = .ok (.invokespecial 73, 3) := by decide +kernel
theorem dX7_thread_22 : decode cX7_thread 22 = .ok (.athrow, 1) := by decide +kernel
theorem dX7_thread_23 : decode cX7_thread 23 = .ok (.aload_n 0, 1) := by decide +kernel
theorem dX7_thread_24 : decode cX7_thread 24 = .ok (.getfield 16, 3) := by decide +kernel
theorem dX7_thread_27 : decode cX7_thread 27 = .ok (.iload_n 1, 1) := by decide +kernel
theorem dX7_thread_28 : decode cX7_thread 28 = .ok (.invokevirtual 77, 3) := by decide +kernel
theorem dX7_thread_31 : decode cX7_thread 31 = .ok (.checkcast 50, 3) := by decide +kernel
theorem dX7_thread_34 : decode cX7_thread 34 = .ok (.astore_n 3, 1) := by decide +kernel
theorem dX7_thread_35 : decode cX7_thread 35 = .ok (.iload_n 2, 1) := by decide +kernel
theorem dX7_thread_36 : decode cX7_thread 36 = .ok (.tableswitch 108 0 7 #[48, 53, 58, 63, 68, 73, 81, 89], 48) := by decide +kernel
theorem dX7_thread_84 : decode cX7_thread 84 = .ok (.aload_n 3, 1) := by decide +kernel
theorem dX7_thread_85 : decode cX7_thread 85 = .ok (.getfield 81, 3) := by decide +kernel
theorem dX7_thread_88 : decode cX7_thread 88 = .ok (.ireturn, 1) := by decide +kernel
theorem dX7_thread_89 : decode cX7_thread 89 = .ok (.aload_n 3, 1) := by decide +kernel
theorem dX7_thread_90 : decode cX7_thread 90 = .ok (.getfield 88, 3) := by decide +kernel
theorem dX7_thread_93 : decode cX7_thread 93 = .ok (.ireturn, 1) := by decide +kernel
theorem dX7_thread_94 : decode cX7_thread 94 = .ok (.aload_n 3, 1) := by decide +kernel
theorem dX7_thread_95 : decode cX7_thread 95 = .ok (.getfield 91, 3) := by decide +kernel
theorem dX7_thread_98 : decode cX7_thread 98 = .ok (.ireturn, 1) := by decide +kernel
theorem dX7_thread_99 : decode cX7_thread 99 = .ok (.aload_n 3, 1) := by decide +kernel
theorem dX7_thread_100 : decode cX7_thread 100 = .ok (.getfield 94, 3) := by decide +kernel
theorem dX7_thread_103 : decode cX7_thread 103 = .ok (.ireturn, 1) := by decide +kernel
theorem dX7_thread_104 : decode cX7_thread 104 = .ok (.aload_n 3, 1) := by decide +kernel
theorem dX7_thread_105 : decode cX7_thread 105 = .ok (.getfield 97, 3) := by decide +kernel
theorem dX7_thread_108 : decode cX7_thread 108 = .ok (.ireturn, 1) := by decide +kernel
theorem dX7_thread_109 : decode cX7_thread 109 = .ok (.aload_n 3, 1) := by decide +kernel
theorem dX7_thread_110 : decode cX7_thread 110 = .ok (.getfield 100, 3) := by decide +kernel
theorem dX7_thread_113 : decode cX7_thread 113 = .ok (.getfield 104, 3) := by decide +kernel
theorem dX7_thread_116 : decode cX7_thread 116 = .ok (.ireturn, 1) := by decide +kernel
theorem dX7_thread_117 : decode cX7_thread 117 = .ok (.aload_n 3, 1) := by decide +kernel
theorem dX7_thread_118 : decode cX7_thread 118 = .ok (.getfield 100, 3) := by decide +kernel
theorem dX7_thread_121 : decode cX7_thread 121 = .ok (.getfield 109, 3) := by decide +kernel
theorem dX7_thread_124 : decode cX7_thread 124 = .ok (.ireturn, 1) := by decide +kernel
theorem dX7_thread_125 : decode cX7_thread 125 = .ok (.aload_n 3, 1) := by decide +kernel
theorem dX7_thread_126 : decode cX7_thread 126 = .ok (.invokevirtual 112, 3) := by decide +kernel
theorem dX7_thread_129 : decode cX7_thread 129 = .ok (.ifCond .eq 13, 3) := by decide +kernel
theorem dX7_thread_132 : decode cX7_thread 132 = .ok (.aload_n 3, 1) := by decide +kernel
theorem dX7_thread_133 : decode cX7_thread 133 = .ok (.getfield 100, 3) := by decide +kernel
theorem dX7_thread_136 : decode cX7_thread 136 = .ok (.getfield 116, 3) := by decide +kernel
theorem dX7_thread_139 : decode cX7_thread 139 = .ok (.goto 4, 3) := by decide +kernel
theorem dX7_thread_142 : decode cX7_thread 142 = .ok (.iconst (-1), 1) := by decide +kernel
theorem dX7_thread_143 : decode cX7_thread 143 = .ok (.ireturn, 1) := by decide +kernel
theorem dX7_thread_144 : decode cX7_thread 144 = .ok (.new 74, 3) := by decide +kernel
theorem dX7_thread_147 : decode cX7_thread 147 = .ok (.dup, 1) := by decide +kernel
theorem dX7_thread_148 : decode cX7_thread 148 = .ok (.invokespecial 76, 3) := by decide +kernel
theorem dX7_thread_151 : decode cX7_thread 151 = .ok (.athrow, 1) := by decide +kernel
theorem dX7_register_0 : decode cX7_register 0 = .ok (.iload_n 1, 1) := by decide +kernel
theorem dX7_register_1 : decode cX7_register 1 = .ok (.ifCond .lt 24, 3) := by decide +kernel
theorem dX7_register_4 : decode cX7_register 4 = .ok (.iload_n 1, 1) := by decide +kernel
theorem dX7_register_5 : decode cX7_register 5 = .ok (.aload_n 0, 1) := by decide +kernel
theorem dX7_register_6 : decode cX7_register 6 = .ok (.getfield 16, 3) := by decide +kernel
theorem dX7_register_9 : decode cX7_register 9 = .ok (.invokevirtual 59, 3) := by decide +kernel
theorem dX7_register_12 : decode cX7_register 12 = .ok (.if_icmp .ge 13, 3) := by decide +kernel
theorem dX7_register_15 : decode cX7_register 15 = .ok (.iload_n 2, 1) := by decide +kernel
theorem dX7_register_16 : decode cX7_register 16 = .ok (.ifCond .lt 9, 3) := by decide +kernel
theorem dX7_register_19 : decode cX7_register 19 = .ok (.iload_n 2, 1) := by decide +kernel
theorem dX7_register_20 : decode cX7_register 20 = .ok (.bipush 16, 2) := by decide +kernel
theorem dX7_register_22 : decode cX7_register 22 = .ok (.if_icmp .lt 11, 3) := by decide +kernel
theorem dX7_register_25 : decode cX7_register 25 = .ok (.new 71, 3) := by decide +kernel
theorem dX7_register_28 : decode cX7_register 28 = .ok (.dup, 1) := by decide +kernel
theorem dX7_register_29 : decode cX7_register 29 = .ok (.invokespecial 73, 3) := by decide +kernel
theorem dX7_register_32 : decode cX7_register 32 = .ok (.athrow, 1) := by decide +kernel
theorem dX7_register_33 : decode cX7_register 33 = .ok (.aload_n 0, 1) := by decide +kernel
theorem dX7_register_34 : decode cX7_register 34 = .ok (.getfield 16, 3) := by decide +kernel
theorem dX7_register_37 : decode cX7_register 37 = .ok (.iload_n 1, 1) := by decide +kernel
theorem dX7_register_38 : decode cX7_register 38 = .ok (.invokevirtual 77, 3) := by decide +kernel
theorem dX7_register_41 : decode cX7_register 41 = .ok (.checkcast 50, 3) := by decide +kernel
theorem dX7_register_44 : decode cX7_register 44 = .ok (.getfield 119, 3) := by decide +kernel
theorem dX7_register_47 : decode cX7_register 47 = .ok (.iload_n 2, 1) := by decide +kernel
theorem dX7_register_48 : decode cX7_register 48 = .ok (.laload, 1) := by decide +kernel
theorem dX7_register_49 : decode cX7_register 49 = .ok (.lreturn, 1) := by decide +kernel
theorem dX7_global_0 : decode cX7_global 0 = .ok (.iload_n 1, 1) := by decide +kernel
theorem dX7_global_1 : decode cX7_global 1 = .ok (.ifCond .lt 9, 3) := by decide +kernel
theorem dX7_global_4 : decode cX7_global 4 = .ok (.iload_n 1, 1) := by decide +kernel
theorem dX7_global_5 : decode cX7_global 5 = .ok (.bipush 8, 2) := by decide +kernel
theorem dX7_global_7 : decode cX7_global 7 = .ok (.if_icmp .lt 11, 3) := by decide +kernel
theorem dX7_global_10 : decode cX7_global 10 = .ok (.new 71, 3) := by decide +kernel
theorem dX7_global_13 : decode cX7_global 13 = .ok (.dup, 1) := by decide +kernel
theorem dX7_global_14 : decode cX7_global 14 = .ok (.invokespecial 73, 3) := by decide +kernel
theorem dX7_global_17 : decode cX7_global 17 = .ok (.athrow, 1) := by decide +kernel
theorem dX7_global_18 : decode cX7_global 18 = .ok (.aload_n 0, 1) := by decide +kernel
theorem dX7_global_19 : decode cX7_global 19 = .ok (.getfield 19, 3) := by decide +kernel
theorem dX7_global_22 : decode cX7_global 22 = .ok (.iload_n 1, 1) := by decide +kernel
theorem dX7_global_23 : decode cX7_global 23 = .ok (.laload, 1) := by decide +kernel
theorem dX7_global_24 : decode cX7_global 24 = .ok (.lreturn, 1) := by decide +kernel
theorem dX7_place_0 : decode cX7_place 0 = .ok (.iload_n 1, 1) := by decide +kernel
theorem dX7_place_1 : decode cX7_place 1 = .ok (.ifCond .lt 14, 3) := by decide +kernel
theorem dX7_place_4 : decode cX7_place 4 = .ok (.iload_n 1, 1) := by decide +kernel
theorem dX7_place_5 : decode cX7_place 5 = .ok (.aload_n 0, 1) := by decide +kernel
theorem dX7_place_6 : decode cX7_place 6 = .ok (.getfield 26, 3) := by decide +kernel
theorem dX7_place_9 : decode cX7_place 9 = .ok (.getfield 122, 3) := by decide +kernel
theorem dX7_place_12 : decode cX7_place 12 = .ok (.if_icmp .lt 11, 3) := by decide +kernel
theorem dX7_place_15 : decode cX7_place 15 = .ok (.new 71, 3) := by decide +kernel
theorem dX7_place_18 : decode cX7_place 18 = .ok (.dup, 1) := by decide +kernel
theorem dX7_place_19 : decode cX7_place 19 = .ok (.invokespecial 73, 3) := by decide +kernel
theorem dX7_place_22 : decode cX7_place 22 = .ok (.athrow, 1) := by decide +kernel
theorem dX7_place_23 : decode cX7_place 23 = .ok (.iload_n 2, 1) := by decide +kernel
theorem dX7_place_24 : decode cX7_place 24 = .ok (.tableswitch 59 0 2 #[28, 39, 49], 28) := by decide +kernel
theorem dX7_place_52 : decode cX7_place 52 = .ok (.aload_n 0, 1) := by decide +kernel
theorem dX7_place_53 : decode cX7_place 53 = .ok (.getfield 26, 3) := by decide +kernel
theorem dX7_place_56 : decode cX7_place 56 = .ok (.getfield 125, 3) := by decide +kernel
theorem dX7_place_59 : decode cX7_place 59 = .ok (.iload_n 1, 1) := by decide +kernel
theorem dX7_place_60 : decode cX7_place 60 = .ok (.iaload, 1) := by decide +kernel
theorem dX7_place_61 : decode cX7_place 61 = .ok (.i2l, 1) := by decide +kernel
theorem dX7_place_62 : decode cX7_place 62 = .ok (.lreturn, 1) := by decide +kernel
theorem dX7_place_63 : decode cX7_place 63 = .ok (.aload_n 0, 1) := by decide +kernel
theorem dX7_place_64 : decode cX7_place 64 = .ok (.getfield 26, 3) := by decide +kernel
theorem dX7_place_67 : decode cX7_place 67 = .ok (.getfield 129, 3) := by decide +kernel
theorem dX7_place_70 : decode cX7_place 70 = .ok (.iload_n 1, 1) := by decide +kernel
theorem dX7_place_71 : decode cX7_place 71 = .ok (.laload, 1) := by decide +kernel
theorem dX7_place_72 : decode cX7_place 72 = .ok (.lreturn, 1) := by decide +kernel
theorem dX7_place_73 : decode cX7_place 73 = .ok (.aload_n 0, 1) := by decide +kernel
theorem dX7_place_74 : decode cX7_place 74 = .ok (.getfield 26, 3) := by decide +kernel
theorem dX7_place_77 : decode cX7_place 77 = .ok (.getfield 132, 3) := by decide +kernel
theorem dX7_place_80 : decode cX7_place 80 = .ok (.iload_n 1, 1) := by decide +kernel
theorem dX7_place_81 : decode cX7_place 81 = .ok (.laload, 1) := by decide +kernel
theorem dX7_place_82 : decode cX7_place 82 = .ok (.lreturn, 1) := by decide +kernel
theorem dX7_place_83 : decode cX7_place 83 = .ok (.new 74, 3) := by decide +kernel
theorem dX7_place_86 : decode cX7_place 86 = .ok (.dup, 1) := by decide +kernel
theorem dX7_place_87 : decode cX7_place 87 = .ok (.invokespecial 76, 3) := by decide +kernel
theorem dX7_place_90 : decode cX7_place 90 = .ok (.athrow, 1) := by decide +kernel
theorem dX7_output_0 : decode cX7_output 0 = .ok (.iload_n 1, 1) := by decide +kernel
theorem dX7_output_1 : decode cX7_output 1 = .ok (.ifCond .lt 14, 3) := by decide +kernel
theorem dX7_output_4 : decode cX7_output 4 = .ok (.iload_n 1, 1) := by decide +kernel
theorem dX7_output_5 : decode cX7_output 5 = .ok (.aload_n 0, 1) := by decide +kernel
theorem dX7_output_6 : decode cX7_output 6 = .ok (.getfield 33, 3) := by decide +kernel
theorem dX7_output_9 : decode cX7_output 9 = .ok (.getfield 135, 3) := by decide +kernel
theorem dX7_output_12 : decode cX7_output 12 = .ok (.if_icmp .lt 11, 3) := by decide +kernel
theorem dX7_output_15 : decode cX7_output 15 = .ok (.new 138, 3) := by decide +kernel
theorem dX7_output_18 : decode cX7_output 18 = .ok (.dup, 1) := by decide +kernel
theorem dX7_output_19 : decode cX7_output 19 = .ok (.invokespecial 140, 3) := by decide +kernel
theorem dX7_output_22 : decode cX7_output 22 = .ok (.athrow, 1) := by decide +kernel
theorem dX7_output_23 : decode cX7_output 23 = .ok (.aload_n 0, 1) := by decide +kernel
theorem dX7_output_24 : decode cX7_output 24 = .ok (.getfield 33, 3) := by decide +kernel
theorem dX7_output_27 : decode cX7_output 27 = .ok (.iload_n 1, 1) := by decide +kernel
theorem dX7_output_28 : decode cX7_output 28 = .ok (.invokevirtual 141, 3) := by decide +kernel
theorem dX7_output_31 : decode cX7_output 31 = .ok (.ireturn, 1) := by decide +kernel
theorem dX7_collect_0 : decode cX7_collect 0 = .ok (.aload_n 0, 1) := by decide +kernel
theorem dX7_collect_1 : decode cX7_collect 1 = .ok (.invokevirtual 145, 3) := by decide +kernel
theorem dX7_collect_4 : decode cX7_collect 4 = .ok (.aload_n 0, 1) := by decide +kernel
theorem dX7_collect_5 : decode cX7_collect 5 = .ok (.getfield 26, 3) := by decide +kernel
theorem dX7_collect_8 : decode cX7_collect 8 = .ok (.getfield 122, 3) := by decide +kernel
theorem dX7_collect_11 : decode cX7_collect 11 = .ok (.ireturn, 1) := by decide +kernel
theorem dX7_count_0 : decode cX7_count 0 = .ok (.iload_n 1, 1) := by decide +kernel
theorem dX7_count_1 : decode cX7_count 1 = .ok (.tableswitch 116 0 8 #[51, 59, 67, 75, 80, 85, 90, 95, 103], 51) := by decide +kernel
theorem dX7_count_52 : decode cX7_count 52 = .ok (.aload_n 0, 1) := by decide +kernel
theorem dX7_count_53 : decode cX7_count 53 = .ok (.getfield 10, 3) := by decide +kernel
theorem dX7_count_56 : decode cX7_count 56 = .ok (.invokevirtual 59, 3) := by decide +kernel
theorem dX7_count_59 : decode cX7_count 59 = .ok (.ireturn, 1) := by decide +kernel
theorem dX7_count_60 : decode cX7_count 60 = .ok (.aload_n 0, 1) := by decide +kernel
theorem dX7_count_61 : decode cX7_count 61 = .ok (.getfield 16, 3) := by decide +kernel
theorem dX7_count_64 : decode cX7_count 64 = .ok (.invokevirtual 59, 3) := by decide +kernel
theorem dX7_count_67 : decode cX7_count 67 = .ok (.ireturn, 1) := by decide +kernel
theorem dX7_count_68 : decode cX7_count 68 = .ok (.aload_n 0, 1) := by decide +kernel
theorem dX7_count_69 : decode cX7_count 69 = .ok (.getfield 26, 3) := by decide +kernel
theorem dX7_count_72 : decode cX7_count 72 = .ok (.getfield 122, 3) := by decide +kernel
theorem dX7_count_75 : decode cX7_count 75 = .ok (.ireturn, 1) := by decide +kernel
theorem dX7_count_76 : decode cX7_count 76 = .ok (.aload_n 0, 1) := by decide +kernel
theorem dX7_count_77 : decode cX7_count 77 = .ok (.getfield 37, 3) := by decide +kernel
theorem dX7_count_80 : decode cX7_count 80 = .ok (.ireturn, 1) := by decide +kernel
theorem dX7_count_81 : decode cX7_count 81 = .ok (.aload_n 0, 1) := by decide +kernel
theorem dX7_count_82 : decode cX7_count 82 = .ok (.getfield 41, 3) := by decide +kernel
theorem dX7_count_85 : decode cX7_count 85 = .ok (.ireturn, 1) := by decide +kernel
theorem dX7_count_86 : decode cX7_count 86 = .ok (.aload_n 0, 1) := by decide +kernel
theorem dX7_count_87 : decode cX7_count 87 = .ok (.getfield 44, 3) := by decide +kernel
theorem dX7_count_90 : decode cX7_count 90 = .ok (.ireturn, 1) := by decide +kernel
theorem dX7_count_91 : decode cX7_count 91 = .ok (.aload_n 0, 1) := by decide +kernel
theorem dX7_count_92 : decode cX7_count 92 = .ok (.getfield 47, 3) := by decide +kernel
theorem dX7_count_95 : decode cX7_count 95 = .ok (.ireturn, 1) := by decide +kernel
theorem dX7_count_96 : decode cX7_count 96 = .ok (.aload_n 0, 1) := by decide +kernel
theorem dX7_count_97 : decode cX7_count 97 = .ok (.getfield 33, 3) := by decide +kernel
theorem dX7_count_100 : decode cX7_count 100 = .ok (.getfield 135, 3) := by decide +kernel
theorem dX7_count_103 : decode cX7_count 103 = .ok (.ireturn, 1) := by decide +kernel
theorem dX7_count_104 : decode cX7_count 104 = .ok (.aload_n 0, 1) := by decide +kernel
theorem dX7_count_105 : decode cX7_count 105 = .ok (.invokevirtual 148, 3) := by decide +kernel
theorem dX7_count_108 : decode cX7_count 108 = .ok (.ifCond .eq 7, 3) := by decide +kernel
theorem dX7_count_111 : decode cX7_count 111 = .ok (.iconst 1, 1) := by decide +kernel
theorem dX7_count_112 : decode cX7_count 112 = .ok (.goto 4, 3) := by decide +kernel
theorem dX7_count_115 : decode cX7_count 115 = .ok (.iconst 0, 1) := by decide +kernel
theorem dX7_count_116 : decode cX7_count 116 = .ok (.ireturn, 1) := by decide +kernel
theorem dX7_count_117 : decode cX7_count 117 = .ok (.iconst (-1), 1) := by decide +kernel
theorem dX7_count_118 : decode cX7_count 118 = .ok (.ireturn, 1) := by decide +kernel
theorem dX7_isDeadlocked_0 : decode cX7_isDeadlocked 0 = .ok (.iconst 0, 1) := by decide +kernel
theorem dX7_isDeadlocked_1 : decode cX7_isDeadlocked 1 = .ok (.istore_n 1, 1) := by decide +kernel
theorem dX7_isDeadlocked_2 : decode cX7_isDeadlocked 2 = .ok (.iconst 0, 1) := by decide +kernel
theorem dX7_isDeadlocked_3 : decode cX7_isDeadlocked 3 = .ok (.istore_n 2, 1) := by decide +kernel
theorem dX7_isDeadlocked_4 : decode cX7_isDeadlocked 4 = .ok (.iload_n 2, 1) := by decide +kernel
theorem dX7_isDeadlocked_5 : decode cX7_isDeadlocked 5 = .ok (.aload_n 0, 1) := by decide +kernel
theorem dX7_isDeadlocked_6 : decode cX7_isDeadlocked 6 = .ok (.getfield 16, 3) := by decide +kernel
theorem dX7_isDeadlocked_9 : decode cX7_isDeadlocked 9 = .ok (.invokevirtual 59, 3) := by decide +kernel
theorem dX7_isDeadlocked_12 : decode cX7_isDeadlocked 12 = .ok (.if_icmp .ge 46, 3) := by decide +kernel
theorem dX7_isDeadlocked_15 : decode cX7_isDeadlocked 15 = .ok (.aload_n 0, 1) := by decide +kernel
theorem dX7_isDeadlocked_16 : decode cX7_isDeadlocked 16 = .ok (.getfield 16, 3) := by decide +kernel
theorem dX7_isDeadlocked_19 : decode cX7_isDeadlocked 19 = .ok (.iload_n 2, 1) := by decide +kernel
theorem dX7_isDeadlocked_20 : decode cX7_isDeadlocked 20 = .ok (.invokevirtual 77, 3) := by decide +kernel
theorem dX7_isDeadlocked_23 : decode cX7_isDeadlocked 23 = .ok (.checkcast 50, 3) := by decide +kernel
theorem dX7_isDeadlocked_26 : decode cX7_isDeadlocked 26 = .ok (.getfield 81, 3) := by decide +kernel
theorem dX7_isDeadlocked_29 : decode cX7_isDeadlocked 29 = .ok (.istore_n 3, 1) := by decide +kernel
theorem dX7_isDeadlocked_30 : decode cX7_isDeadlocked 30 = .ok (.iload_n 3, 1) := by decide +kernel
theorem dX7_isDeadlocked_31 : decode cX7_isDeadlocked 31 = .ok (.iconst 1, 1) := by decide +kernel
theorem dX7_isDeadlocked_32 : decode cX7_isDeadlocked 32 = .ok (.if_icmp .ne 5, 3) := by decide +kernel
theorem dX7_isDeadlocked_35 : decode cX7_isDeadlocked 35 = .ok (.iconst 0, 1) := by decide +kernel
theorem dX7_isDeadlocked_36 : decode cX7_isDeadlocked 36 = .ok (.ireturn, 1) := by decide +kernel
theorem dX7_isDeadlocked_37 : decode cX7_isDeadlocked 37 = .ok (.iload_n 1, 1) := by decide +kernel
theorem dX7_isDeadlocked_38 : decode cX7_isDeadlocked 38 = .ok (.ifCond .ne 8, 3) := by decide +kernel
theorem dX7_isDeadlocked_41 : decode cX7_isDeadlocked 41 = .ok (.iload_n 3, 1) := by decide +kernel
theorem dX7_isDeadlocked_42 : decode cX7_isDeadlocked 42 = .ok (.iconst 2, 1) := by decide +kernel
theorem dX7_isDeadlocked_43 : decode cX7_isDeadlocked 43 = .ok (.if_icmp .ne 7, 3) := by decide +kernel
theorem dX7_isDeadlocked_46 : decode cX7_isDeadlocked 46 = .ok (.iconst 1, 1) := by decide +kernel
theorem dX7_isDeadlocked_47 : decode cX7_isDeadlocked 47 = .ok (.goto 4, 3) := by decide +kernel
theorem dX7_isDeadlocked_50 : decode cX7_isDeadlocked 50 = .ok (.iconst 0, 1) := by decide +kernel
theorem dX7_isDeadlocked_51 : decode cX7_isDeadlocked 51 = .ok (.istore_n 1, 1) := by decide +kernel
theorem dX7_isDeadlocked_52 : decode cX7_isDeadlocked 52 = .ok (.iinc 2 1, 3) := by decide +kernel
theorem dX7_isDeadlocked_55 : decode cX7_isDeadlocked 55 = .ok (.goto (-51), 3) := by decide +kernel
theorem dX7_isDeadlocked_58 : decode cX7_isDeadlocked 58 = .ok (.iload_n 1, 1) := by decide +kernel
theorem dX7_isDeadlocked_59 : decode cX7_isDeadlocked 59 = .ok (.ireturn, 1) := by decide +kernel
theorem dX7_sortOf_0 : decode cX7_sortOf 0 = .ok (.lload_n 0, 1) := by decide +kernel
theorem dX7_sortOf_1 : decode cX7_sortOf 1 = .ok (.ldc2_w 151, 3) := by decide +kernel
theorem dX7_sortOf_4 : decode cX7_sortOf 4 = .ok (.lcmp, 1) := by decide +kernel
theorem dX7_sortOf_5 : decode cX7_sortOf 5 = .ok (.ifCond .lt 7, 3) := by decide +kernel
theorem dX7_sortOf_8 : decode cX7_sortOf 8 = .ok (.iconst 2, 1) := by decide +kernel
theorem dX7_sortOf_9 : decode cX7_sortOf 9 = .ok (.goto 16, 3) := by decide +kernel
theorem dX7_sortOf_12 : decode cX7_sortOf 12 = .ok (.lload_n 0, 1) := by decide +kernel
theorem dX7_sortOf_13 : decode cX7_sortOf 13 = .ok (.ldc2_w 153, 3) := by decide +kernel
theorem dX7_sortOf_16 : decode cX7_sortOf 16 = .ok (.lcmp, 1) := by decide +kernel
theorem dX7_sortOf_17 : decode cX7_sortOf 17 = .ok (.ifCond .lt 7, 3) := by decide +kernel
theorem dX7_sortOf_20 : decode cX7_sortOf 20 = .ok (.iconst 1, 1) := by decide +kernel
theorem dX7_sortOf_21 : decode cX7_sortOf 21 = .ok (.goto 4, 3) := by decide +kernel
theorem dX7_sortOf_24 : decode cX7_sortOf 24 = .ok (.iconst 0, 1) := by decide +kernel
theorem dX7_sortOf_25 : decode cX7_sortOf 25 = .ok (.ireturn, 1) := by decide +kernel
theorem dX7_placeOf_0 : decode cX7_placeOf 0 = .ok (.lload_n 0, 1) := by decide +kernel
theorem dX7_placeOf_1 : decode cX7_placeOf 1 = .ok (.ldc2_w 155, 3) := by decide +kernel
theorem dX7_placeOf_4 : decode cX7_placeOf 4 = .ok (.land, 1) := by decide +kernel
theorem dX7_placeOf_5 : decode cX7_placeOf 5 = .ok (.l2i, 1) := by decide +kernel
theorem dX7_placeOf_6 : decode cX7_placeOf 6 = .ok (.ireturn, 1) := by decide +kernel
theorem dX7_step_0 : decode cX7_step 0 = .ok (.aload_n 1, 1) := by decide +kernel
theorem dX7_step_1 : decode cX7_step 1 = .ok (.getfield 91, 3) := by decide +kernel
theorem dX7_step_4 : decode cX7_step 4 = .ok (.istore_n 2, 1) := by decide +kernel
theorem dX7_step_5 : decode cX7_step 5 = .ok (.aload_n 0, 1) := by decide +kernel
theorem dX7_step_6 : decode cX7_step 6 = .ok (.dup, 1) := by decide +kernel
theorem dX7_step_7 : decode cX7_step 7 = .ok (.getfield 47, 3) := by decide +kernel
theorem dX7_step_10 : decode cX7_step 10 = .ok (.iconst 1, 1) := by decide +kernel
theorem dX7_step_11 : decode cX7_step 11 = .ok (.iadd, 1) := by decide +kernel
theorem dX7_step_12 : decode cX7_step 12 = .ok (.putfield 47, 3) := by decide +kernel
theorem dX7_step_15 : decode cX7_step 15 = .ok (.aload_n 1, 1) := by decide +kernel
theorem dX7_step_16 : decode cX7_step 16 = .ok (.iload_n 2, 1) := by decide +kernel
theorem dX7_step_17 : decode cX7_step 17 = .ok (.iconst 1, 1) := by decide +kernel
theorem dX7_step_18 : decode cX7_step 18 = .ok (.iadd, 1) := by decide +kernel
theorem dX7_step_19 : decode cX7_step 19 = .ok (.putfield 91, 3) := by decide +kernel
theorem dX7_step_22 : decode cX7_step 22 = .ok (.iconst (-1), 1) := by decide +kernel
theorem dX7_step_23 : decode cX7_step 23 = .ok (.istore_n 3, 1) := by decide +kernel
theorem dX7_step_24 : decode cX7_step 24 = .ok (.iload_n 2, 1) := by decide +kernel
theorem dX7_step_25 : decode cX7_step 25 = .ok (.ifCond .lt 31, 3) := by decide +kernel
theorem dX7_step_28 : decode cX7_step 28 = .ok (.iload_n 2, 1) := by decide +kernel
theorem dX7_step_29 : decode cX7_step 29 = .ok (.aload_n 0, 1) := by decide +kernel
theorem dX7_step_30 : decode cX7_step 30 = .ok (.getfield 10, 3) := by decide +kernel
theorem dX7_step_33 : decode cX7_step 33 = .ok (.invokevirtual 59, 3) := by decide +kernel
theorem dX7_step_36 : decode cX7_step 36 = .ok (.if_icmp .ge 20, 3) := by decide +kernel
theorem dX7_step_39 : decode cX7_step 39 = .ok (.aload_n 0, 1) := by decide +kernel
theorem dX7_step_40 : decode cX7_step 40 = .ok (.aload_n 1, 1) := by decide +kernel
theorem dX7_step_41 : decode cX7_step 41 = .ok (.aload_n 0, 1) := by decide +kernel
theorem dX7_step_42 : decode cX7_step 42 = .ok (.getfield 10, 3) := by decide +kernel
theorem dX7_step_45 : decode cX7_step 45 = .ok (.iload_n 2, 1) := by decide +kernel
theorem dX7_step_46 : decode cX7_step 46 = .ok (.invokevirtual 77, 3) := by decide +kernel
theorem dX7_step_49 : decode cX7_step 49 = .ok (.checkcast 66, 3) := by decide +kernel
theorem dX7_step_52 : decode cX7_step 52 = .ok (.invokevirtual 157, 3) := by decide +kernel
theorem dX7_step_55 : decode cX7_step 55 = .ok (.istore_n 3, 1) := by decide +kernel
theorem dX7_step_56 : decode cX7_step 56 = .ok (.iload_n 3, 1) := by decide +kernel
theorem dX7_step_57 : decode cX7_step 57 = .ok (.ifCond .eq 8, 3) := by decide +kernel
theorem dX7_step_60 : decode cX7_step 60 = .ok (.aload_n 1, 1) := by decide +kernel
theorem dX7_step_61 : decode cX7_step 61 = .ok (.iload_n 3, 1) := by decide +kernel
theorem dX7_step_62 : decode cX7_step 62 = .ok (.invokevirtual 161, 3) := by decide +kernel
theorem dX7_step_65 : decode cX7_step 65 = .ok (.return_, 1) := by decide +kernel
theorem dX7_perform_0 : decode cX7_perform 0 = .ok (.aload_n 1, 1) := by decide +kernel
theorem dX7_perform_1 : decode cX7_perform 1 = .ok (.aload_n 2, 1) := by decide +kernel
theorem dX7_perform_2 : decode cX7_perform 2 = .ok (.invokestatic 164, 3) := by decide +kernel
theorem dX7_perform_5 : decode cX7_perform 5 = .ok (.istore_n 3, 1) := by decide +kernel
theorem dX7_perform_6 : decode cX7_perform 6 = .ok (.iload_n 3, 1) := by decide +kernel
theorem dX7_perform_7 : decode cX7_perform 7 = .ok (.ifCond .eq 5, 3) := by decide +kernel
theorem dX7_perform_10 : decode cX7_perform 10 = .ok (.iload_n 3, 1) := by decide +kernel
theorem dX7_perform_11 : decode cX7_perform 11 = .ok (.ireturn, 1) := by decide +kernel
theorem dX7_perform_12 : decode cX7_perform 12 = .ok (.getstatic 167, 3) := by decide +kernel
theorem dX7_perform_15 : decode cX7_perform 15 = .ok (.aload_n 2, 1) := by decide +kernel
theorem dX7_perform_16 : decode cX7_perform 16 = .ok (.getfield 173, 3) := by decide +kernel
theorem dX7_perform_19 : decode cX7_perform 19 = .ok (.aaload, 1) := by decide +kernel
theorem dX7_perform_20 : decode cX7_perform 20 = .ok (.astore 4, 2) := by decide +kernel
theorem dX7_perform_22 : decode cX7_perform 22 = .ok (.aload 4, 2) := by decide +kernel
theorem dX7_perform_24 : decode cX7_perform 24 = .ok (.getstatic 176, 3) := by decide +kernel
theorem dX7_perform_27 : decode cX7_perform 27 = .ok (.if_acmp .eq 11, 3) := by decide +kernel
theorem dX7_perform_30 : decode cX7_perform 30 = .ok (.aload 4, 2) := by decide +kernel
theorem dX7_perform_32 : decode cX7_perform 32 = .ok (.getstatic 180, 3) := by decide +kernel
theorem dX7_perform_35 : decode cX7_perform 35 = .ok (.if_acmp .ne 36, 3) := by decide +kernel
theorem dX7_perform_38 : decode cX7_perform 38 = .ok (.aload_n 0, 1) := by decide +kernel
theorem dX7_perform_39 : decode cX7_perform 39 = .ok (.getfield 26, 3) := by decide +kernel
theorem dX7_perform_42 : decode cX7_perform 42 = .ok (.getfield 122, 3) := by decide +kernel
theorem dX7_perform_45 : decode cX7_perform 45 = .ok (.sipush 200, 3) := by decide +kernel
theorem dX7_perform_48 : decode cX7_perform 48 = .ok (.if_icmp .lt 23, 3) := by decide +kernel
theorem dX7_perform_51 : decode cX7_perform 51 = .ok (.aload_n 0, 1) := by decide +kernel
theorem dX7_perform_52 : decode cX7_perform 52 = .ok (.invokevirtual 145, 3) := by decide +kernel
theorem dX7_perform_55 : decode cX7_perform 55 = .ok (.aload_n 0, 1) := by decide +kernel
theorem dX7_perform_56 : decode cX7_perform 56 = .ok (.getfield 26, 3) := by decide +kernel
theorem dX7_perform_59 : decode cX7_perform 59 = .ok (.getfield 122, 3) := by decide +kernel
theorem dX7_perform_62 : decode cX7_perform 62 = .ok (.sipush 200, 3) := by decide +kernel
theorem dX7_perform_65 : decode cX7_perform 65 = .ok (.if_icmp .lt 6, 3) := by decide +kernel
theorem dX7_perform_68 : decode cX7_perform 68 = .ok (.bipush (-3), 2) := by decide +kernel
theorem dX7_perform_70 : decode cX7_perform 70 = .ok (.ireturn, 1) := by decide +kernel
theorem dX7_perform_71 : decode cX7_perform 71 = .ok (.getstatic 183, 3) := by decide +kernel
theorem dX7_perform_74 : decode cX7_perform 74 = .ok (.aload 4, 2) := by decide +kernel
theorem dX7_perform_76 : decode cX7_perform 76 = .ok (.invokevirtual 188, 3) := by decide +kernel
theorem dX7_perform_79 : decode cX7_perform 79 = .ok (.iaload, 1) := by decide +kernel
theorem dX7_perform_80 : decode cX7_perform 80 = .ok (.tableswitch 128 1 9 #[52, 66, 80, 88, 96, 114, 114, 114, 114], 52) := by decide +kernel
theorem dX7_perform_132 : decode cX7_perform 132 = .ok (.aload_n 0, 1) := by decide +kernel
theorem dX7_perform_133 : decode cX7_perform 133 = .ok (.aload_n 1, 1) := by decide +kernel
theorem dX7_perform_134 : decode cX7_perform 134 = .ok (.aload_n 2, 1) := by decide +kernel
theorem dX7_perform_135 : decode cX7_perform 135 = .ok (.getfield 191, 3) := by decide +kernel
theorem dX7_perform_138 : decode cX7_perform 138 = .ok (.aload_n 2, 1) := by decide +kernel
theorem dX7_perform_139 : decode cX7_perform 139 = .ok (.getfield 194, 3) := by decide +kernel
theorem dX7_perform_142 : decode cX7_perform 142 = .ok (.invokevirtual 197, 3) := by decide +kernel
theorem dX7_perform_145 : decode cX7_perform 145 = .ok (.ireturn, 1) := by decide +kernel
theorem dX7_perform_146 : decode cX7_perform 146 = .ok (.aload_n 0, 1) := by decide +kernel
theorem dX7_perform_147 : decode cX7_perform 147 = .ok (.aload_n 1, 1) := by decide +kernel
theorem dX7_perform_148 : decode cX7_perform 148 = .ok (.aload_n 2, 1) := by decide +kernel
theorem dX7_perform_149 : decode cX7_perform 149 = .ok (.getfield 191, 3) := by decide +kernel
theorem dX7_perform_152 : decode cX7_perform 152 = .ok (.aload_n 2, 1) := by decide +kernel
theorem dX7_perform_153 : decode cX7_perform 153 = .ok (.getfield 194, 3) := by decide +kernel
theorem dX7_perform_156 : decode cX7_perform 156 = .ok (.invokevirtual 201, 3) := by decide +kernel
theorem dX7_perform_159 : decode cX7_perform 159 = .ok (.ireturn, 1) := by decide +kernel
theorem dX7_perform_160 : decode cX7_perform 160 = .ok (.aload_n 0, 1) := by decide +kernel
theorem dX7_perform_161 : decode cX7_perform 161 = .ok (.aload_n 1, 1) := by decide +kernel
theorem dX7_perform_162 : decode cX7_perform 162 = .ok (.invokevirtual 204, 3) := by decide +kernel
theorem dX7_perform_165 : decode cX7_perform 165 = .ok (.goto 51, 3) := by decide +kernel
theorem dX7_perform_168 : decode cX7_perform 168 = .ok (.aload_n 0, 1) := by decide +kernel
theorem dX7_perform_169 : decode cX7_perform 169 = .ok (.aload_n 1, 1) := by decide +kernel
theorem dX7_perform_170 : decode cX7_perform 170 = .ok (.invokevirtual 207, 3) := by decide +kernel
theorem dX7_perform_173 : decode cX7_perform 173 = .ok (.goto 43, 3) := by decide +kernel
theorem dX7_perform_176 : decode cX7_perform 176 = .ok (.aload_n 0, 1) := by decide +kernel
theorem dX7_perform_177 : decode cX7_perform 177 = .ok (.aload_n 1, 1) := by decide +kernel
theorem dX7_perform_178 : decode cX7_perform 178 = .ok (.aload_n 1, 1) := by decide +kernel
theorem dX7_perform_179 : decode cX7_perform 179 = .ok (.getfield 119, 3) := by decide +kernel
theorem dX7_perform_182 : decode cX7_perform 182 = .ok (.aload_n 2, 1) := by decide +kernel
theorem dX7_perform_183 : decode cX7_perform 183 = .ok (.getfield 191, 3) := by decide +kernel
theorem dX7_perform_186 : decode cX7_perform 186 = .ok (.laload, 1) := by decide +kernel
theorem dX7_perform_187 : decode cX7_perform 187 = .ok (.l2i, 1) := by decide +kernel
theorem dX7_perform_188 : decode cX7_perform 188 = .ok (.invokevirtual 210, 3) := by decide +kernel
theorem dX7_perform_191 : decode cX7_perform 191 = .ok (.goto 25, 3) := by decide +kernel
theorem dX7_perform_194 : decode cX7_perform 194 = .ok (.aload_n 0, 1) := by decide +kernel
theorem dX7_perform_195 : decode cX7_perform 195 = .ok (.aload_n 1, 1) := by decide +kernel
theorem dX7_perform_196 : decode cX7_perform 196 = .ok (.aload 4, 2) := by decide +kernel
theorem dX7_perform_198 : decode cX7_perform 198 = .ok (.aload_n 2, 1) := by decide +kernel
theorem dX7_perform_199 : decode cX7_perform 199 = .ok (.getfield 191, 3) := by decide +kernel
theorem dX7_perform_202 : decode cX7_perform 202 = .ok (.invokevirtual 214, 3) := by decide +kernel
theorem dX7_perform_205 : decode cX7_perform 205 = .ok (.goto 11, 3) := by decide +kernel
theorem dX7_perform_208 : decode cX7_perform 208 = .ok (.aload_n 0, 1) := by decide +kernel
theorem dX7_perform_209 : decode cX7_perform 209 = .ok (.aload_n 1, 1) := by decide +kernel
theorem dX7_perform_210 : decode cX7_perform 210 = .ok (.aload 4, 2) := by decide +kernel
theorem dX7_perform_212 : decode cX7_perform 212 = .ok (.aload_n 2, 1) := by decide +kernel
theorem dX7_perform_213 : decode cX7_perform 213 = .ok (.invokevirtual 218, 3) := by decide +kernel
theorem dX7_perform_216 : decode cX7_perform 216 = .ok (.iconst 0, 1) := by decide +kernel
theorem dX7_perform_217 : decode cX7_perform 217 = .ok (.ireturn, 1) := by decide +kernel
theorem dX7_faultBefore_0 : decode cX7_faultBefore 0 = .ok (.aload_n 1, 1) := by decide +kernel
theorem dX7_faultBefore_1 : decode cX7_faultBefore 1 = .ok (.getfield 173, 3) := by decide +kernel
theorem dX7_faultBefore_4 : decode cX7_faultBefore 4 = .ok (.ifCond .lt 14, 3) := by decide +kernel
theorem dX7_faultBefore_7 : decode cX7_faultBefore 7 = .ok (.aload_n 1, 1) := by decide +kernel
theorem dX7_faultBefore_8 : decode cX7_faultBefore 8 = .ok (.getfield 173, 3) := by decide +kernel
theorem dX7_faultBefore_11 : decode cX7_faultBefore 11 = .ok (.getstatic 167, 3) := by decide +kernel
theorem dX7_faultBefore_14 : decode cX7_faultBefore 14 = .ok (.arraylength, 1) := by decide +kernel
theorem dX7_faultBefore_15 : decode cX7_faultBefore 15 = .ok (.if_icmp .lt 5, 3) := by decide +kernel
theorem dX7_faultBefore_18 : decode cX7_faultBefore 18 = .ok (.iconst (-1), 1) := by decide +kernel
theorem dX7_faultBefore_19 : decode cX7_faultBefore 19 = .ok (.ireturn, 1) := by decide +kernel
theorem dX7_faultBefore_20 : decode cX7_faultBefore 20 = .ok (.getstatic 167, 3) := by decide +kernel
theorem dX7_faultBefore_23 : decode cX7_faultBefore 23 = .ok (.aload_n 1, 1) := by decide +kernel
theorem dX7_faultBefore_24 : decode cX7_faultBefore 24 = .ok (.getfield 173, 3) := by decide +kernel
theorem dX7_faultBefore_27 : decode cX7_faultBefore 27 = .ok (.aaload, 1) := by decide +kernel
theorem dX7_faultBefore_28 : decode cX7_faultBefore 28 = .ok (.astore_n 2, 1) := by decide +kernel
theorem dX7_faultBefore_29 : decode cX7_faultBefore 29 = .ok (.aload_n 0, 1) := by decide +kernel
theorem dX7_faultBefore_30 : decode cX7_faultBefore 30 = .ok (.aload_n 2, 1) := by decide +kernel
theorem dX7_faultBefore_31 : decode cX7_faultBefore 31 = .ok (.aload_n 1, 1) := by decide +kernel
theorem dX7_faultBefore_32 : decode cX7_faultBefore 32 = .ok (.invokestatic 222, 3) := by decide +kernel
theorem dX7_faultBefore_35 : decode cX7_faultBefore 35 = .ok (.ifCond .ne 5, 3) := by decide +kernel
theorem dX7_faultBefore_38 : decode cX7_faultBefore 38 = .ok (.iconst (-1), 1) := by decide +kernel
theorem dX7_faultBefore_39 : decode cX7_faultBefore 39 = .ok (.ireturn, 1) := by decide +kernel
theorem dX7_faultBefore_40 : decode cX7_faultBefore 40 = .ok (.aload_n 0, 1) := by decide +kernel
theorem dX7_faultBefore_41 : decode cX7_faultBefore 41 = .ok (.aload_n 2, 1) := by decide +kernel
theorem dX7_faultBefore_42 : decode cX7_faultBefore 42 = .ok (.invokestatic 226, 3) := by decide +kernel
theorem dX7_faultBefore_45 : decode cX7_faultBefore 45 = .ok (.ifCond .ne 6, 3) := by decide +kernel
theorem dX7_faultBefore_48 : decode cX7_faultBefore 48 = .ok (.bipush (-4), 2) := by decide +kernel
theorem dX7_faultBefore_50 : decode cX7_faultBefore 50 = .ok (.ireturn, 1) := by decide +kernel
theorem dX7_faultBefore_51 : decode cX7_faultBefore 51 = .ok (.aload_n 0, 1) := by decide +kernel
theorem dX7_faultBefore_52 : decode cX7_faultBefore 52 = .ok (.aload_n 2, 1) := by decide +kernel
theorem dX7_faultBefore_53 : decode cX7_faultBefore 53 = .ok (.invokestatic 230, 3) := by decide +kernel
theorem dX7_faultBefore_56 : decode cX7_faultBefore 56 = .ok (.ifCond .eq 7, 3) := by decide +kernel
theorem dX7_faultBefore_59 : decode cX7_faultBefore 59 = .ok (.iconst 0, 1) := by decide +kernel
theorem dX7_faultBefore_60 : decode cX7_faultBefore 60 = .ok (.goto 5, 3) := by decide +kernel
theorem dX7_faultBefore_63 : decode cX7_faultBefore 63 = .ok (.bipush (-2), 2) := by decide +kernel
theorem dX7_faultBefore_65 : decode cX7_faultBefore 65 = .ok (.ireturn, 1) := by decide +kernel
theorem dX7_operandsFit_0 : decode cX7_operandsFit 0 = .ok (.aload_n 0, 1) := by decide +kernel
theorem dX7_operandsFit_1 : decode cX7_operandsFit 1 = .ok (.aload_n 1, 1) := by decide +kernel
theorem dX7_operandsFit_2 : decode cX7_operandsFit 2 = .ok (.getfield 233, 3) := by decide +kernel
theorem dX7_operandsFit_5 : decode cX7_operandsFit 5 = .ok (.iconst 0, 1) := by decide +kernel
theorem dX7_operandsFit_6 : decode cX7_operandsFit 6 = .ok (.invokevirtual 237, 3) := by decide +kernel
theorem dX7_operandsFit_9 : decode cX7_operandsFit 9 = .ok (.aload_n 2, 1) := by decide +kernel
theorem dX7_operandsFit_10 : decode cX7_operandsFit 10 = .ok (.getfield 191, 3) := by decide +kernel
theorem dX7_operandsFit_13 : decode cX7_operandsFit 13 = .ok (.invokestatic 243, 3) := by decide +kernel
theorem dX7_operandsFit_16 : decode cX7_operandsFit 16 = .ok (.ifCond .eq 45, 3) := by decide +kernel
theorem dX7_operandsFit_19 : decode cX7_operandsFit 19 = .ok (.aload_n 0, 1) := by decide +kernel
theorem dX7_operandsFit_20 : decode cX7_operandsFit 20 = .ok (.aload_n 1, 1) := by decide +kernel
theorem dX7_operandsFit_21 : decode cX7_operandsFit 21 = .ok (.getfield 233, 3) := by decide +kernel
theorem dX7_operandsFit_24 : decode cX7_operandsFit 24 = .ok (.iconst 1, 1) := by decide +kernel
theorem dX7_operandsFit_25 : decode cX7_operandsFit 25 = .ok (.invokevirtual 237, 3) := by decide +kernel
theorem dX7_operandsFit_28 : decode cX7_operandsFit 28 = .ok (.aload_n 2, 1) := by decide +kernel
theorem dX7_operandsFit_29 : decode cX7_operandsFit 29 = .ok (.getfield 194, 3) := by decide +kernel
theorem dX7_operandsFit_32 : decode cX7_operandsFit 32 = .ok (.invokestatic 243, 3) := by decide +kernel
theorem dX7_operandsFit_35 : decode cX7_operandsFit 35 = .ok (.ifCond .eq 26, 3) := by decide +kernel
theorem dX7_operandsFit_38 : decode cX7_operandsFit 38 = .ok (.aload_n 0, 1) := by decide +kernel
theorem dX7_operandsFit_39 : decode cX7_operandsFit 39 = .ok (.aload_n 1, 1) := by decide +kernel
theorem dX7_operandsFit_40 : decode cX7_operandsFit 40 = .ok (.getfield 233, 3) := by decide +kernel
theorem dX7_operandsFit_43 : decode cX7_operandsFit 43 = .ok (.iconst 2, 1) := by decide +kernel
theorem dX7_operandsFit_44 : decode cX7_operandsFit 44 = .ok (.invokevirtual 237, 3) := by decide +kernel
theorem dX7_operandsFit_47 : decode cX7_operandsFit 47 = .ok (.aload_n 2, 1) := by decide +kernel
theorem dX7_operandsFit_48 : decode cX7_operandsFit 48 = .ok (.getfield 247, 3) := by decide +kernel
theorem dX7_operandsFit_51 : decode cX7_operandsFit 51 = .ok (.invokestatic 243, 3) := by decide +kernel
theorem dX7_operandsFit_54 : decode cX7_operandsFit 54 = .ok (.ifCond .eq 7, 3) := by decide +kernel
theorem dX7_operandsFit_57 : decode cX7_operandsFit 57 = .ok (.iconst 1, 1) := by decide +kernel
theorem dX7_operandsFit_58 : decode cX7_operandsFit 58 = .ok (.goto 4, 3) := by decide +kernel
theorem dX7_operandsFit_61 : decode cX7_operandsFit 61 = .ok (.iconst 0, 1) := by decide +kernel
theorem dX7_operandsFit_62 : decode cX7_operandsFit 62 = .ok (.ireturn, 1) := by decide +kernel
theorem dX7_operandFits_0 : decode cX7_operandFits 0 = .ok (.iload_n 1, 1) := by decide +kernel
theorem dX7_operandFits_1 : decode cX7_operandFits 1 = .ok (.bipush 45, 2) := by decide +kernel
theorem dX7_operandFits_3 : decode cX7_operandFits 3 = .ok (.if_icmp .ne 5, 3) := by decide +kernel
theorem dX7_operandFits_6 : decode cX7_operandFits 6 = .ok (.iconst 1, 1) := by decide +kernel
theorem dX7_operandFits_7 : decode cX7_operandFits 7 = .ok (.ireturn, 1) := by decide +kernel
theorem dX7_operandFits_8 : decode cX7_operandFits 8 = .ok (.iload_n 1, 1) := by decide +kernel
theorem dX7_operandFits_9 : decode cX7_operandFits 9 = .ok (.bipush 71, 2) := by decide +kernel
theorem dX7_operandFits_11 : decode cX7_operandFits 11 = .ok (.if_icmp .ne 19, 3) := by decide +kernel
theorem dX7_operandFits_14 : decode cX7_operandFits 14 = .ok (.iload_n 2, 1) := by decide +kernel
theorem dX7_operandFits_15 : decode cX7_operandFits 15 = .ok (.ifCond .lt 13, 3) := by decide +kernel
theorem dX7_operandFits_18 : decode cX7_operandFits 18 = .ok (.iload_n 2, 1) := by decide +kernel
theorem dX7_operandFits_19 : decode cX7_operandFits 19 = .ok (.bipush 8, 2) := by decide +kernel
theorem dX7_operandFits_21 : decode cX7_operandFits 21 = .ok (.if_icmp .ge 7, 3) := by decide +kernel
theorem dX7_operandFits_24 : decode cX7_operandFits 24 = .ok (.iconst 1, 1) := by decide +kernel
theorem dX7_operandFits_25 : decode cX7_operandFits 25 = .ok (.goto 4, 3) := by decide +kernel
theorem dX7_operandFits_28 : decode cX7_operandFits 28 = .ok (.iconst 0, 1) := by decide +kernel
theorem dX7_operandFits_29 : decode cX7_operandFits 29 = .ok (.ireturn, 1) := by decide +kernel
theorem dX7_operandFits_30 : decode cX7_operandFits 30 = .ok (.iload_n 2, 1) := by decide +kernel
theorem dX7_operandFits_31 : decode cX7_operandFits 31 = .ok (.ifCond .lt 9, 3) := by decide +kernel
theorem dX7_operandFits_34 : decode cX7_operandFits 34 = .ok (.iload_n 2, 1) := by decide +kernel
theorem dX7_operandFits_35 : decode cX7_operandFits 35 = .ok (.bipush 16, 2) := by decide +kernel
theorem dX7_operandFits_37 : decode cX7_operandFits 37 = .ok (.if_icmp .lt 5, 3) := by decide +kernel
theorem dX7_operandFits_40 : decode cX7_operandFits 40 = .ok (.iconst 0, 1) := by decide +kernel
theorem dX7_operandFits_41 : decode cX7_operandFits 41 = .ok (.ireturn, 1) := by decide +kernel
theorem dX7_operandFits_42 : decode cX7_operandFits 42 = .ok (.aload_n 0, 1) := by decide +kernel
theorem dX7_operandFits_43 : decode cX7_operandFits 43 = .ok (.getfield 119, 3) := by decide +kernel
theorem dX7_operandFits_46 : decode cX7_operandFits 46 = .ok (.iload_n 2, 1) := by decide +kernel
theorem dX7_operandFits_47 : decode cX7_operandFits 47 = .ok (.laload, 1) := by decide +kernel
theorem dX7_operandFits_48 : decode cX7_operandFits 48 = .ok (.lstore_n 3, 1) := by decide +kernel
theorem dX7_operandFits_49 : decode cX7_operandFits 49 = .ok (.iload_n 1, 1) := by decide +kernel
theorem dX7_operandFits_50 : decode cX7_operandFits 50 = .ok (.lookupswitch 102 #[(67, 83), (73, 42), (80, 55), (86, 69)], 42) := by decide +kernel
theorem dX7_operandFits_92 : decode cX7_operandFits 92 = .ok (.lload_n 3, 1) := by decide +kernel
theorem dX7_operandFits_93 : decode cX7_operandFits 93 = .ok (.invokestatic 250, 3) := by decide +kernel
theorem dX7_operandFits_96 : decode cX7_operandFits 96 = .ok (.ifCond .ne 7, 3) := by decide +kernel
theorem dX7_operandFits_99 : decode cX7_operandFits 99 = .ok (.iconst 1, 1) := by decide +kernel
theorem dX7_operandFits_100 : decode cX7_operandFits 100 = .ok (.goto 4, 3) := by decide +kernel
theorem dX7_operandFits_103 : decode cX7_operandFits 103 = .ok (.iconst 0, 1) := by decide +kernel
theorem dX7_operandFits_104 : decode cX7_operandFits 104 = .ok (.ireturn, 1) := by decide +kernel
theorem dX7_operandFits_105 : decode cX7_operandFits 105 = .ok (.lload_n 3, 1) := by decide +kernel
theorem dX7_operandFits_106 : decode cX7_operandFits 106 = .ok (.invokestatic 250, 3) := by decide +kernel
theorem dX7_operandFits_109 : decode cX7_operandFits 109 = .ok (.iconst 1, 1) := by decide +kernel
theorem dX7_operandFits_110 : decode cX7_operandFits 110 = .ok (.if_icmp .ne 7, 3) := by decide +kernel
theorem dX7_operandFits_113 : decode cX7_operandFits 113 = .ok (.iconst 1, 1) := by decide +kernel
theorem dX7_operandFits_114 : decode cX7_operandFits 114 = .ok (.goto 4, 3) := by decide +kernel
theorem dX7_operandFits_117 : decode cX7_operandFits 117 = .ok (.iconst 0, 1) := by decide +kernel
theorem dX7_operandFits_118 : decode cX7_operandFits 118 = .ok (.ireturn, 1) := by decide +kernel
theorem dX7_operandFits_119 : decode cX7_operandFits 119 = .ok (.lload_n 3, 1) := by decide +kernel
theorem dX7_operandFits_120 : decode cX7_operandFits 120 = .ok (.invokestatic 250, 3) := by decide +kernel
theorem dX7_operandFits_123 : decode cX7_operandFits 123 = .ok (.iconst 2, 1) := by decide +kernel
theorem dX7_operandFits_124 : decode cX7_operandFits 124 = .ok (.if_icmp .ne 7, 3) := by decide +kernel
theorem dX7_operandFits_127 : decode cX7_operandFits 127 = .ok (.iconst 1, 1) := by decide +kernel
theorem dX7_operandFits_128 : decode cX7_operandFits 128 = .ok (.goto 4, 3) := by decide +kernel
theorem dX7_operandFits_131 : decode cX7_operandFits 131 = .ok (.iconst 0, 1) := by decide +kernel
theorem dX7_operandFits_132 : decode cX7_operandFits 132 = .ok (.ireturn, 1) := by decide +kernel
theorem dX7_operandFits_133 : decode cX7_operandFits 133 = .ok (.lload_n 3, 1) := by decide +kernel
theorem dX7_operandFits_134 : decode cX7_operandFits 134 = .ok (.invokestatic 250, 3) := by decide +kernel
theorem dX7_operandFits_137 : decode cX7_operandFits 137 = .ok (.ifCond .ne 13, 3) := by decide +kernel
theorem dX7_operandFits_140 : decode cX7_operandFits 140 = .ok (.lload_n 3, 1) := by decide +kernel
theorem dX7_operandFits_141 : decode cX7_operandFits 141 = .ok (.lconst 0, 1) := by decide +kernel
theorem dX7_operandFits_142 : decode cX7_operandFits 142 = .ok (.lcmp, 1) := by decide +kernel
theorem dX7_operandFits_143 : decode cX7_operandFits 143 = .ok (.ifCond .lt 7, 3) := by decide +kernel
theorem dX7_operandFits_146 : decode cX7_operandFits 146 = .ok (.iconst 1, 1) := by decide +kernel
theorem dX7_operandFits_147 : decode cX7_operandFits 147 = .ok (.goto 4, 3) := by decide +kernel
theorem dX7_operandFits_150 : decode cX7_operandFits 150 = .ok (.iconst 0, 1) := by decide +kernel
theorem dX7_operandFits_151 : decode cX7_operandFits 151 = .ok (.ireturn, 1) := by decide +kernel
theorem dX7_operandFits_152 : decode cX7_operandFits 152 = .ok (.iconst 1, 1) := by decide +kernel
theorem dX7_operandFits_153 : decode cX7_operandFits 153 = .ok (.ireturn, 1) := by decide +kernel
theorem dX7_nestsFit_0 : decode cX7_nestsFit 0 = .ok (.aload_n 0, 1) := by decide +kernel
theorem dX7_nestsFit_1 : decode cX7_nestsFit 1 = .ok (.invokevirtual 112, 3) := by decide +kernel
theorem dX7_nestsFit_4 : decode cX7_nestsFit 4 = .ok (.istore_n 2, 1) := by decide +kernel
theorem dX7_nestsFit_5 : decode cX7_nestsFit 5 = .ok (.aload_n 1, 1) := by decide +kernel
theorem dX7_nestsFit_6 : decode cX7_nestsFit 6 = .ok (.getfield 254, 3) := by decide +kernel
theorem dX7_nestsFit_9 : decode cX7_nestsFit 9 = .ok (.iconst 2, 1) := by decide +kernel
theorem dX7_nestsFit_10 : decode cX7_nestsFit 10 = .ok (.if_icmp .ne 7, 3) := by decide +kernel
theorem dX7_nestsFit_13 : decode cX7_nestsFit 13 = .ok (.iload_n 2, 1) := by decide +kernel
theorem dX7_nestsFit_14 : decode cX7_nestsFit 14 = .ok (.ifCond .eq 15, 3) := by decide +kernel
theorem dX7_nestsFit_17 : decode cX7_nestsFit 17 = .ok (.aload_n 1, 1) := by decide +kernel
theorem dX7_nestsFit_18 : decode cX7_nestsFit 18 = .ok (.getfield 254, 3) := by decide +kernel
theorem dX7_nestsFit_21 : decode cX7_nestsFit 21 = .ok (.iconst 1, 1) := by decide +kernel
theorem dX7_nestsFit_22 : decode cX7_nestsFit 22 = .ok (.if_icmp .ne 9, 3) := by decide +kernel
theorem dX7_nestsFit_25 : decode cX7_nestsFit 25 = .ok (.iload_n 2, 1) := by decide +kernel
theorem dX7_nestsFit_26 : decode cX7_nestsFit 26 = .ok (.ifCond .eq 5, 3) := by decide +kernel
theorem dX7_nestsFit_29 : decode cX7_nestsFit 29 = .ok (.iconst 0, 1) := by decide +kernel
theorem dX7_nestsFit_30 : decode cX7_nestsFit 30 = .ok (.ireturn, 1) := by decide +kernel
theorem dX7_nestsFit_31 : decode cX7_nestsFit 31 = .ok (.getstatic 183, 3) := by decide +kernel
theorem dX7_nestsFit_34 : decode cX7_nestsFit 34 = .ok (.aload_n 1, 1) := by decide +kernel
theorem dX7_nestsFit_35 : decode cX7_nestsFit 35 = .ok (.invokevirtual 188, 3) := by decide +kernel
theorem dX7_nestsFit_38 : decode cX7_nestsFit 38 = .ok (.iaload, 1) := by decide +kernel
theorem dX7_nestsFit_39 : decode cX7_nestsFit 39 = .ok (.tableswitch 118 3 10 #[73, 118, 118, 58, 58, 58, 92, 45], 45) := by decide +kernel
theorem dX7_nestsFit_84 : decode cX7_nestsFit 84 = .ok (.aload_n 0, 1) := by decide +kernel
theorem dX7_nestsFit_85 : decode cX7_nestsFit 85 = .ok (.getfield 97, 3) := by decide +kernel
theorem dX7_nestsFit_88 : decode cX7_nestsFit 88 = .ok (.ifCond .ne 7, 3) := by decide +kernel
theorem dX7_nestsFit_91 : decode cX7_nestsFit 91 = .ok (.iconst 1, 1) := by decide +kernel
theorem dX7_nestsFit_92 : decode cX7_nestsFit 92 = .ok (.goto 4, 3) := by decide +kernel
theorem dX7_nestsFit_95 : decode cX7_nestsFit 95 = .ok (.iconst 0, 1) := by decide +kernel
theorem dX7_nestsFit_96 : decode cX7_nestsFit 96 = .ok (.ireturn, 1) := by decide +kernel
theorem dX7_nestsFit_97 : decode cX7_nestsFit 97 = .ok (.aload_n 0, 1) := by decide +kernel
theorem dX7_nestsFit_98 : decode cX7_nestsFit 98 = .ok (.getfield 97, 3) := by decide +kernel
theorem dX7_nestsFit_101 : decode cX7_nestsFit 101 = .ok (.bipush 24, 2) := by decide +kernel
theorem dX7_nestsFit_103 : decode cX7_nestsFit 103 = .ok (.if_icmp .ge 7, 3) := by decide +kernel
theorem dX7_nestsFit_106 : decode cX7_nestsFit 106 = .ok (.iconst 1, 1) := by decide +kernel
theorem dX7_nestsFit_107 : decode cX7_nestsFit 107 = .ok (.goto 4, 3) := by decide +kernel
theorem dX7_nestsFit_110 : decode cX7_nestsFit 110 = .ok (.iconst 0, 1) := by decide +kernel
theorem dX7_nestsFit_111 : decode cX7_nestsFit 111 = .ok (.ireturn, 1) := by decide +kernel
theorem dX7_nestsFit_112 : decode cX7_nestsFit 112 = .ok (.aload_n 0, 1) := by decide +kernel
theorem dX7_nestsFit_113 : decode cX7_nestsFit 113 = .ok (.getfield 257, 3) := by decide +kernel
theorem dX7_nestsFit_116 : decode cX7_nestsFit 116 = .ok (.aload_n 0, 1) := by decide +kernel
theorem dX7_nestsFit_117 : decode cX7_nestsFit 117 = .ok (.getfield 97, 3) := by decide +kernel
theorem dX7_nestsFit_120 : decode cX7_nestsFit 120 = .ok (.iconst 1, 1) := by decide +kernel
theorem dX7_nestsFit_121 : decode cX7_nestsFit 121 = .ok (.isub, 1) := by decide +kernel
theorem dX7_nestsFit_122 : decode cX7_nestsFit 122 = .ok (.if_icmp .ne 7, 3) := by decide +kernel
theorem dX7_nestsFit_125 : decode cX7_nestsFit 125 = .ok (.iconst 1, 1) := by decide +kernel
theorem dX7_nestsFit_126 : decode cX7_nestsFit 126 = .ok (.goto 4, 3) := by decide +kernel
theorem dX7_nestsFit_129 : decode cX7_nestsFit 129 = .ok (.iconst 0, 1) := by decide +kernel
theorem dX7_nestsFit_130 : decode cX7_nestsFit 130 = .ok (.ireturn, 1) := by decide +kernel
theorem dX7_nestsFit_131 : decode cX7_nestsFit 131 = .ok (.aload_n 0, 1) := by decide +kernel
theorem dX7_nestsFit_132 : decode cX7_nestsFit 132 = .ok (.getfield 97, 3) := by decide +kernel
theorem dX7_nestsFit_135 : decode cX7_nestsFit 135 = .ok (.ifCond .le 20, 3) := by decide +kernel
theorem dX7_nestsFit_138 : decode cX7_nestsFit 138 = .ok (.aload_n 0, 1) := by decide +kernel
theorem dX7_nestsFit_139 : decode cX7_nestsFit 139 = .ok (.getfield 257, 3) := by decide +kernel
theorem dX7_nestsFit_142 : decode cX7_nestsFit 142 = .ok (.aload_n 0, 1) := by decide +kernel
theorem dX7_nestsFit_143 : decode cX7_nestsFit 143 = .ok (.getfield 97, 3) := by decide +kernel
theorem dX7_nestsFit_146 : decode cX7_nestsFit 146 = .ok (.iconst 1, 1) := by decide +kernel
theorem dX7_nestsFit_147 : decode cX7_nestsFit 147 = .ok (.isub, 1) := by decide +kernel
theorem dX7_nestsFit_148 : decode cX7_nestsFit 148 = .ok (.if_icmp .eq 7, 3) := by decide +kernel
theorem dX7_nestsFit_151 : decode cX7_nestsFit 151 = .ok (.iconst 1, 1) := by decide +kernel
theorem dX7_nestsFit_152 : decode cX7_nestsFit 152 = .ok (.goto 4, 3) := by decide +kernel
theorem dX7_nestsFit_155 : decode cX7_nestsFit 155 = .ok (.iconst 0, 1) := by decide +kernel
theorem dX7_nestsFit_156 : decode cX7_nestsFit 156 = .ok (.ireturn, 1) := by decide +kernel
theorem dX7_nestsFit_157 : decode cX7_nestsFit 157 = .ok (.iconst 1, 1) := by decide +kernel
theorem dX7_nestsFit_158 : decode cX7_nestsFit 158 = .ok (.ireturn, 1) := by decide +kernel
theorem dX7_callsFit_0 : decode cX7_callsFit 0 = .ok (.aload_n 1, 1) := by decide +kernel
theorem dX7_callsFit_1 : decode cX7_callsFit 1 = .ok (.getstatic 260, 3) := by decide +kernel
theorem dX7_callsFit_4 : decode cX7_callsFit 4 = .ok (.if_acmp .ne 18, 3) := by decide +kernel
theorem dX7_callsFit_7 : decode cX7_callsFit 7 = .ok (.aload_n 0, 1) := by decide +kernel
theorem dX7_callsFit_8 : decode cX7_callsFit 8 = .ok (.getfield 94, 3) := by decide +kernel
theorem dX7_callsFit_11 : decode cX7_callsFit 11 = .ok (.bipush 40, 2) := by decide +kernel
theorem dX7_callsFit_13 : decode cX7_callsFit 13 = .ok (.if_icmp .ge 7, 3) := by decide +kernel
theorem dX7_callsFit_16 : decode cX7_callsFit 16 = .ok (.iconst 1, 1) := by decide +kernel
theorem dX7_callsFit_17 : decode cX7_callsFit 17 = .ok (.goto 4, 3) := by decide +kernel
theorem dX7_callsFit_20 : decode cX7_callsFit 20 = .ok (.iconst 0, 1) := by decide +kernel
theorem dX7_callsFit_21 : decode cX7_callsFit 21 = .ok (.ireturn, 1) := by decide +kernel
theorem dX7_callsFit_22 : decode cX7_callsFit 22 = .ok (.aload_n 1, 1) := by decide +kernel
theorem dX7_callsFit_23 : decode cX7_callsFit 23 = .ok (.getstatic 263, 3) := by decide +kernel
theorem dX7_callsFit_26 : decode cX7_callsFit 26 = .ok (.if_acmp .ne 14, 3) := by decide +kernel
theorem dX7_callsFit_29 : decode cX7_callsFit 29 = .ok (.aload_n 0, 1) := by decide +kernel
theorem dX7_callsFit_30 : decode cX7_callsFit 30 = .ok (.getfield 94, 3) := by decide +kernel
theorem dX7_callsFit_33 : decode cX7_callsFit 33 = .ok (.aload_n 0, 1) := by decide +kernel
theorem dX7_callsFit_34 : decode cX7_callsFit 34 = .ok (.invokevirtual 266, 3) := by decide +kernel
theorem dX7_callsFit_37 : decode cX7_callsFit 37 = .ok (.if_icmp .le 7, 3) := by decide +kernel
theorem dX7_callsFit_40 : decode cX7_callsFit 40 = .ok (.iconst 1, 1) := by decide +kernel
theorem dX7_callsFit_41 : decode cX7_callsFit 41 = .ok (.goto 4, 3) := by decide +kernel
theorem dX7_callsFit_44 : decode cX7_callsFit 44 = .ok (.iconst 0, 1) := by decide +kernel
theorem dX7_callsFit_45 : decode cX7_callsFit 45 = .ok (.ireturn, 1) := by decide +kernel
theorem dX7_performPlainly_0 : decode cX7_performPlainly 0 = .ok (.aload_n 1, 1) := by decide +kernel
theorem dX7_performPlainly_1 : decode cX7_performPlainly 1 = .ok (.getfield 119, 3) := by decide +kernel
theorem dX7_performPlainly_4 : decode cX7_performPlainly 4 = .ok (.astore 4, 2) := by decide +kernel
theorem dX7_performPlainly_6 : decode cX7_performPlainly 6 = .ok (.aload_n 3, 1) := by decide +kernel
theorem dX7_performPlainly_7 : decode cX7_performPlainly 7 = .ok (.getfield 191, 3) := by decide +kernel
theorem dX7_performPlainly_10 : decode cX7_performPlainly 10 = .ok (.istore 5, 2) := by decide +kernel
theorem dX7_performPlainly_12 : decode cX7_performPlainly 12 = .ok (.aload_n 3, 1) := by decide +kernel
theorem dX7_performPlainly_13 : decode cX7_performPlainly 13 = .ok (.getfield 194, 3) := by decide +kernel
theorem dX7_performPlainly_16 : decode cX7_performPlainly 16 = .ok (.istore 6, 2) := by decide +kernel
theorem dX7_performPlainly_18 : decode cX7_performPlainly 18 = .ok (.aload_n 3, 1) := by decide +kernel
theorem dX7_performPlainly_19 : decode cX7_performPlainly 19 = .ok (.getfield 247, 3) := by decide +kernel
theorem dX7_performPlainly_22 : decode cX7_performPlainly 22 = .ok (.istore 7, 2) := by decide +kernel
theorem dX7_performPlainly_24 : decode cX7_performPlainly 24 = .ok (.getstatic 183, 3) := by decide +kernel
theorem dX7_performPlainly_27 : decode cX7_performPlainly 27 = .ok (.aload_n 2, 1) := by decide +kernel
theorem dX7_performPlainly_28 : decode cX7_performPlainly 28 = .ok (.invokevirtual 188, 3) := by decide +kernel
theorem dX7_performPlainly_31 : decode cX7_performPlainly 31 = .ok (.iaload, 1) := by decide +kernel
theorem dX7_performPlainly_32 : decode cX7_performPlainly 32 = .ok (.tableswitch 468 10 30 #[100, 108, 119, 132, 153, 174, 195, 222, 249, 258, 284, 293, 300, 325, 349, 373, 393, 405, 421, 436, 451], 100) := by decide +kernel
theorem dX7_performPlainly_132 : decode cX7_performPlainly 132 = .ok (.aload_n 1, 1) := by decide +kernel
theorem dX7_performPlainly_133 : decode cX7_performPlainly 133 = .ok (.iconst 3, 1) := by decide +kernel
theorem dX7_performPlainly_134 : decode cX7_performPlainly 134 = .ok (.putfield 81, 3) := by decide +kernel
theorem dX7_performPlainly_137 : decode cX7_performPlainly 137 = .ok (.goto 363, 3) := by decide +kernel
theorem dX7_performPlainly_140 : decode cX7_performPlainly 140 = .ok (.aload 4, 2) := by decide +kernel
theorem dX7_performPlainly_142 : decode cX7_performPlainly 142 = .ok (.iload 5, 2) := by decide +kernel
theorem dX7_performPlainly_144 : decode cX7_performPlainly 144 = .ok (.iload 6, 2) := by decide +kernel
theorem dX7_performPlainly_146 : decode cX7_performPlainly 146 = .ok (.i2l, 1) := by decide +kernel
theorem dX7_performPlainly_147 : decode cX7_performPlainly 147 = .ok (.lastore, 1) := by decide +kernel
theorem dX7_performPlainly_148 : decode cX7_performPlainly 148 = .ok (.goto 352, 3) := by decide +kernel
theorem dX7_performPlainly_151 : decode cX7_performPlainly 151 = .ok (.aload 4, 2) := by decide +kernel
theorem dX7_performPlainly_153 : decode cX7_performPlainly 153 = .ok (.iload 5, 2) := by decide +kernel
theorem dX7_performPlainly_155 : decode cX7_performPlainly 155 = .ok (.aload 4, 2) := by decide +kernel
theorem dX7_performPlainly_157 : decode cX7_performPlainly 157 = .ok (.iload 6, 2) := by decide +kernel
theorem dX7_performPlainly_159 : decode cX7_performPlainly 159 = .ok (.laload, 1) := by decide +kernel
theorem dX7_performPlainly_160 : decode cX7_performPlainly 160 = .ok (.lastore, 1) := by decide +kernel
theorem dX7_performPlainly_161 : decode cX7_performPlainly 161 = .ok (.goto 339, 3) := by decide +kernel
theorem dX7_performPlainly_164 : decode cX7_performPlainly 164 = .ok (.aload 4, 2) := by decide +kernel
theorem dX7_performPlainly_166 : decode cX7_performPlainly 166 = .ok (.iload 5, 2) := by decide +kernel
theorem dX7_performPlainly_168 : decode cX7_performPlainly 168 = .ok (.aload 4, 2) := by decide +kernel
theorem dX7_performPlainly_170 : decode cX7_performPlainly 170 = .ok (.iload 6, 2) := by decide +kernel
theorem dX7_performPlainly_172 : decode cX7_performPlainly 172 = .ok (.laload, 1) := by decide +kernel
theorem dX7_performPlainly_173 : decode cX7_performPlainly 173 = .ok (.aload 4, 2) := by decide +kernel
theorem dX7_performPlainly_175 : decode cX7_performPlainly 175 = .ok (.iload 7, 2) := by decide +kernel
theorem dX7_performPlainly_177 : decode cX7_performPlainly 177 = .ok (.laload, 1) := by decide +kernel
theorem dX7_performPlainly_178 : decode cX7_performPlainly 178 = .ok (.ladd, 1) := by decide +kernel
theorem dX7_performPlainly_179 : decode cX7_performPlainly 179 = .ok (.l2i, 1) := by decide +kernel
theorem dX7_performPlainly_180 : decode cX7_performPlainly 180 = .ok (.i2l, 1) := by decide +kernel
theorem dX7_performPlainly_181 : decode cX7_performPlainly 181 = .ok (.lastore, 1) := by decide +kernel
theorem dX7_performPlainly_182 : decode cX7_performPlainly 182 = .ok (.goto 318, 3) := by decide +kernel
theorem dX7_performPlainly_185 : decode cX7_performPlainly 185 = .ok (.aload 4, 2) := by decide +kernel
theorem dX7_performPlainly_187 : decode cX7_performPlainly 187 = .ok (.iload 5, 2) := by decide +kernel
theorem dX7_performPlainly_189 : decode cX7_performPlainly 189 = .ok (.aload 4, 2) := by decide +kernel
theorem dX7_performPlainly_191 : decode cX7_performPlainly 191 = .ok (.iload 6, 2) := by decide +kernel
theorem dX7_performPlainly_193 : decode cX7_performPlainly 193 = .ok (.laload, 1) := by decide +kernel
theorem dX7_performPlainly_194 : decode cX7_performPlainly 194 = .ok (.aload 4, 2) := by decide +kernel
theorem dX7_performPlainly_196 : decode cX7_performPlainly 196 = .ok (.iload 7, 2) := by decide +kernel
theorem dX7_performPlainly_198 : decode cX7_performPlainly 198 = .ok (.laload, 1) := by decide +kernel
theorem dX7_performPlainly_199 : decode cX7_performPlainly 199 = .ok (.lsub, 1) := by decide +kernel
theorem dX7_performPlainly_200 : decode cX7_performPlainly 200 = .ok (.l2i, 1) := by decide +kernel
theorem dX7_performPlainly_201 : decode cX7_performPlainly 201 = .ok (.i2l, 1) := by decide +kernel
theorem dX7_performPlainly_202 : decode cX7_performPlainly 202 = .ok (.lastore, 1) := by decide +kernel
theorem dX7_performPlainly_203 : decode cX7_performPlainly 203 = .ok (.goto 297, 3) := by decide +kernel
theorem dX7_performPlainly_206 : decode cX7_performPlainly 206 = .ok (.aload 4, 2) := by decide +kernel
theorem dX7_performPlainly_208 : decode cX7_performPlainly 208 = .ok (.iload 5, 2) := by decide +kernel
theorem dX7_performPlainly_210 : decode cX7_performPlainly 210 = .ok (.aload 4, 2) := by decide +kernel
theorem dX7_performPlainly_212 : decode cX7_performPlainly 212 = .ok (.iload 6, 2) := by decide +kernel
theorem dX7_performPlainly_214 : decode cX7_performPlainly 214 = .ok (.laload, 1) := by decide +kernel
theorem dX7_performPlainly_215 : decode cX7_performPlainly 215 = .ok (.aload 4, 2) := by decide +kernel
theorem dX7_performPlainly_217 : decode cX7_performPlainly 217 = .ok (.iload 7, 2) := by decide +kernel
theorem dX7_performPlainly_219 : decode cX7_performPlainly 219 = .ok (.laload, 1) := by decide +kernel
theorem dX7_performPlainly_220 : decode cX7_performPlainly 220 = .ok (.lmul, 1) := by decide +kernel
theorem dX7_performPlainly_221 : decode cX7_performPlainly 221 = .ok (.l2i, 1) := by decide +kernel
theorem dX7_performPlainly_222 : decode cX7_performPlainly 222 = .ok (.i2l, 1) := by decide +kernel
theorem dX7_performPlainly_223 : decode cX7_performPlainly 223 = .ok (.lastore, 1) := by decide +kernel
theorem dX7_performPlainly_224 : decode cX7_performPlainly 224 = .ok (.goto 276, 3) := by decide +kernel
theorem dX7_performPlainly_227 : decode cX7_performPlainly 227 = .ok (.aload 4, 2) := by decide +kernel
theorem dX7_performPlainly_229 : decode cX7_performPlainly 229 = .ok (.iload 5, 2) := by decide +kernel
theorem dX7_performPlainly_231 : decode cX7_performPlainly 231 = .ok (.aload 4, 2) := by decide +kernel
theorem dX7_performPlainly_233 : decode cX7_performPlainly 233 = .ok (.iload 6, 2) := by decide +kernel
theorem dX7_performPlainly_235 : decode cX7_performPlainly 235 = .ok (.laload, 1) := by decide +kernel
theorem dX7_performPlainly_236 : decode cX7_performPlainly 236 = .ok (.aload 4, 2) := by decide +kernel
theorem dX7_performPlainly_238 : decode cX7_performPlainly 238 = .ok (.iload 7, 2) := by decide +kernel
theorem dX7_performPlainly_240 : decode cX7_performPlainly 240 = .ok (.laload, 1) := by decide +kernel
theorem dX7_performPlainly_241 : decode cX7_performPlainly 241 = .ok (.lcmp, 1) := by decide +kernel
theorem dX7_performPlainly_242 : decode cX7_performPlainly 242 = .ok (.ifCond .ge 7, 3) := by decide +kernel
theorem dX7_performPlainly_245 : decode cX7_performPlainly 245 = .ok (.lconst 1, 1) := by decide +kernel
theorem dX7_performPlainly_246 : decode cX7_performPlainly 246 = .ok (.goto 4, 3) := by decide +kernel
theorem dX7_performPlainly_249 : decode cX7_performPlainly 249 = .ok (.lconst 0, 1) := by decide +kernel
theorem dX7_performPlainly_250 : decode cX7_performPlainly 250 = .ok (.lastore, 1) := by decide +kernel
theorem dX7_performPlainly_251 : decode cX7_performPlainly 251 = .ok (.goto 249, 3) := by decide +kernel
theorem dX7_performPlainly_254 : decode cX7_performPlainly 254 = .ok (.aload 4, 2) := by decide +kernel
theorem dX7_performPlainly_256 : decode cX7_performPlainly 256 = .ok (.iload 5, 2) := by decide +kernel
theorem dX7_performPlainly_258 : decode cX7_performPlainly 258 = .ok (.aload 4, 2) := by decide +kernel
theorem dX7_performPlainly_260 : decode cX7_performPlainly 260 = .ok (.iload 6, 2) := by decide +kernel
theorem dX7_performPlainly_262 : decode cX7_performPlainly 262 = .ok (.laload, 1) := by decide +kernel
theorem dX7_performPlainly_263 : decode cX7_performPlainly 263 = .ok (.aload 4, 2) := by decide +kernel
theorem dX7_performPlainly_265 : decode cX7_performPlainly 265 = .ok (.iload 7, 2) := by decide +kernel
theorem dX7_performPlainly_267 : decode cX7_performPlainly 267 = .ok (.laload, 1) := by decide +kernel
theorem dX7_performPlainly_268 : decode cX7_performPlainly 268 = .ok (.lcmp, 1) := by decide +kernel
theorem dX7_performPlainly_269 : decode cX7_performPlainly 269 = .ok (.ifCond .ne 7, 3) := by decide +kernel
theorem dX7_performPlainly_272 : decode cX7_performPlainly 272 = .ok (.lconst 1, 1) := by decide +kernel
theorem dX7_performPlainly_273 : decode cX7_performPlainly 273 = .ok (.goto 4, 3) := by decide +kernel
theorem dX7_performPlainly_276 : decode cX7_performPlainly 276 = .ok (.lconst 0, 1) := by decide +kernel
theorem dX7_performPlainly_277 : decode cX7_performPlainly 277 = .ok (.lastore, 1) := by decide +kernel
theorem dX7_performPlainly_278 : decode cX7_performPlainly 278 = .ok (.goto 222, 3) := by decide +kernel
theorem dX7_performPlainly_281 : decode cX7_performPlainly 281 = .ok (.aload_n 1, 1) := by decide +kernel
theorem dX7_performPlainly_282 : decode cX7_performPlainly 282 = .ok (.iload 5, 2) := by decide +kernel
theorem dX7_performPlainly_284 : decode cX7_performPlainly 284 = .ok (.putfield 91, 3) := by decide +kernel
theorem dX7_performPlainly_287 : decode cX7_performPlainly 287 = .ok (.goto 213, 3) := by decide +kernel
theorem dX7_performPlainly_290 : decode cX7_performPlainly 290 = .ok (.aload_n 1, 1) := by decide +kernel
theorem dX7_performPlainly_291 : decode cX7_performPlainly 291 = .ok (.aload 4, 2) := by decide +kernel
theorem dX7_performPlainly_293 : decode cX7_performPlainly 293 = .ok (.iload 5, 2) := by decide +kernel
theorem dX7_performPlainly_295 : decode cX7_performPlainly 295 = .ok (.laload, 1) := by decide +kernel
theorem dX7_performPlainly_296 : decode cX7_performPlainly 296 = .ok (.lconst 0, 1) := by decide +kernel
theorem dX7_performPlainly_297 : decode cX7_performPlainly 297 = .ok (.lcmp, 1) := by decide +kernel
theorem dX7_performPlainly_298 : decode cX7_performPlainly 298 = .ok (.ifCond .ne 8, 3) := by decide +kernel
theorem dX7_performPlainly_301 : decode cX7_performPlainly 301 = .ok (.iload 6, 2) := by decide +kernel
theorem dX7_performPlainly_303 : decode cX7_performPlainly 303 = .ok (.goto 7, 3) := by decide +kernel
theorem dX7_performPlainly_306 : decode cX7_performPlainly 306 = .ok (.aload_n 1, 1) := by decide +kernel
theorem dX7_performPlainly_307 : decode cX7_performPlainly 307 = .ok (.getfield 91, 3) := by decide +kernel
theorem dX7_performPlainly_310 : decode cX7_performPlainly 310 = .ok (.putfield 91, 3) := by decide +kernel
theorem dX7_performPlainly_313 : decode cX7_performPlainly 313 = .ok (.goto 187, 3) := by decide +kernel
theorem dX7_performPlainly_316 : decode cX7_performPlainly 316 = .ok (.aload_n 1, 1) := by decide +kernel
theorem dX7_performPlainly_317 : decode cX7_performPlainly 317 = .ok (.iload 5, 2) := by decide +kernel
theorem dX7_performPlainly_319 : decode cX7_performPlainly 319 = .ok (.invokevirtual 269, 3) := by decide +kernel
theorem dX7_performPlainly_322 : decode cX7_performPlainly 322 = .ok (.goto 178, 3) := by decide +kernel
theorem dX7_performPlainly_325 : decode cX7_performPlainly 325 = .ok (.aload_n 1, 1) := by decide +kernel
theorem dX7_performPlainly_326 : decode cX7_performPlainly 326 = .ok (.invokevirtual 272, 3) := by decide +kernel
theorem dX7_performPlainly_329 : decode cX7_performPlainly 329 = .ok (.goto 171, 3) := by decide +kernel
theorem dX7_performPlainly_332 : decode cX7_performPlainly 332 = .ok (.aload 4, 2) := by decide +kernel
theorem dX7_performPlainly_334 : decode cX7_performPlainly 334 = .ok (.iload 5, 2) := by decide +kernel
theorem dX7_performPlainly_336 : decode cX7_performPlainly 336 = .ok (.aload_n 0, 1) := by decide +kernel
theorem dX7_performPlainly_337 : decode cX7_performPlainly 337 = .ok (.getfield 26, 3) := by decide +kernel
theorem dX7_performPlainly_340 : decode cX7_performPlainly 340 = .ok (.aload 4, 2) := by decide +kernel
theorem dX7_performPlainly_342 : decode cX7_performPlainly 342 = .ok (.iload 6, 2) := by decide +kernel
theorem dX7_performPlainly_344 : decode cX7_performPlainly 344 = .ok (.laload, 1) := by decide +kernel
theorem dX7_performPlainly_345 : decode cX7_performPlainly 345 = .ok (.aload 4, 2) := by decide +kernel
theorem dX7_performPlainly_347 : decode cX7_performPlainly 347 = .ok (.iload 7, 2) := by decide +kernel
theorem dX7_performPlainly_349 : decode cX7_performPlainly 349 = .ok (.laload, 1) := by decide +kernel
theorem dX7_performPlainly_350 : decode cX7_performPlainly 350 = .ok (.invokevirtual 275, 3) := by decide +kernel
theorem dX7_performPlainly_353 : decode cX7_performPlainly 353 = .ok (.lastore, 1) := by decide +kernel
theorem dX7_performPlainly_354 : decode cX7_performPlainly 354 = .ok (.goto 146, 3) := by decide +kernel
theorem dX7_performPlainly_357 : decode cX7_performPlainly 357 = .ok (.aload 4, 2) := by decide +kernel
theorem dX7_performPlainly_359 : decode cX7_performPlainly 359 = .ok (.iload 5, 2) := by decide +kernel
theorem dX7_performPlainly_361 : decode cX7_performPlainly 361 = .ok (.aload_n 0, 1) := by decide +kernel
theorem dX7_performPlainly_362 : decode cX7_performPlainly 362 = .ok (.getfield 26, 3) := by decide +kernel
theorem dX7_performPlainly_365 : decode cX7_performPlainly 365 = .ok (.getfield 129, 3) := by decide +kernel
theorem dX7_performPlainly_368 : decode cX7_performPlainly 368 = .ok (.aload 4, 2) := by decide +kernel
theorem dX7_performPlainly_370 : decode cX7_performPlainly 370 = .ok (.iload 6, 2) := by decide +kernel
theorem dX7_performPlainly_372 : decode cX7_performPlainly 372 = .ok (.laload, 1) := by decide +kernel
theorem dX7_performPlainly_373 : decode cX7_performPlainly 373 = .ok (.invokestatic 279, 3) := by decide +kernel
theorem dX7_performPlainly_376 : decode cX7_performPlainly 376 = .ok (.laload, 1) := by decide +kernel
theorem dX7_performPlainly_377 : decode cX7_performPlainly 377 = .ok (.lastore, 1) := by decide +kernel
theorem dX7_performPlainly_378 : decode cX7_performPlainly 378 = .ok (.goto 122, 3) := by decide +kernel
theorem dX7_performPlainly_381 : decode cX7_performPlainly 381 = .ok (.aload 4, 2) := by decide +kernel
theorem dX7_performPlainly_383 : decode cX7_performPlainly 383 = .ok (.iload 5, 2) := by decide +kernel
theorem dX7_performPlainly_385 : decode cX7_performPlainly 385 = .ok (.aload_n 0, 1) := by decide +kernel
theorem dX7_performPlainly_386 : decode cX7_performPlainly 386 = .ok (.getfield 26, 3) := by decide +kernel
theorem dX7_performPlainly_389 : decode cX7_performPlainly 389 = .ok (.getfield 132, 3) := by decide +kernel
theorem dX7_performPlainly_392 : decode cX7_performPlainly 392 = .ok (.aload 4, 2) := by decide +kernel
theorem dX7_performPlainly_394 : decode cX7_performPlainly 394 = .ok (.iload 6, 2) := by decide +kernel
theorem dX7_performPlainly_396 : decode cX7_performPlainly 396 = .ok (.laload, 1) := by decide +kernel
theorem dX7_performPlainly_397 : decode cX7_performPlainly 397 = .ok (.invokestatic 279, 3) := by decide +kernel
theorem dX7_performPlainly_400 : decode cX7_performPlainly 400 = .ok (.laload, 1) := by decide +kernel
theorem dX7_performPlainly_401 : decode cX7_performPlainly 401 = .ok (.lastore, 1) := by decide +kernel
theorem dX7_performPlainly_402 : decode cX7_performPlainly 402 = .ok (.goto 98, 3) := by decide +kernel
theorem dX7_performPlainly_405 : decode cX7_performPlainly 405 = .ok (.aload 4, 2) := by decide +kernel
theorem dX7_performPlainly_407 : decode cX7_performPlainly 407 = .ok (.iload 5, 2) := by decide +kernel
theorem dX7_performPlainly_409 : decode cX7_performPlainly 409 = .ok (.aload_n 0, 1) := by decide +kernel
theorem dX7_performPlainly_410 : decode cX7_performPlainly 410 = .ok (.getfield 26, 3) := by decide +kernel
theorem dX7_performPlainly_413 : decode cX7_performPlainly 413 = .ok (.aload 4, 2) := by decide +kernel
theorem dX7_performPlainly_415 : decode cX7_performPlainly 415 = .ok (.iload 6, 2) := by decide +kernel
theorem dX7_performPlainly_417 : decode cX7_performPlainly 417 = .ok (.laload, 1) := by decide +kernel
theorem dX7_performPlainly_418 : decode cX7_performPlainly 418 = .ok (.invokevirtual 282, 3) := by decide +kernel
theorem dX7_performPlainly_421 : decode cX7_performPlainly 421 = .ok (.lastore, 1) := by decide +kernel
theorem dX7_performPlainly_422 : decode cX7_performPlainly 422 = .ok (.goto 78, 3) := by decide +kernel
theorem dX7_performPlainly_425 : decode cX7_performPlainly 425 = .ok (.aload_n 0, 1) := by decide +kernel
theorem dX7_performPlainly_426 : decode cX7_performPlainly 426 = .ok (.aload_n 1, 1) := by decide +kernel
theorem dX7_performPlainly_427 : decode cX7_performPlainly 427 = .ok (.iload 5, 2) := by decide +kernel
theorem dX7_performPlainly_429 : decode cX7_performPlainly 429 = .ok (.iload 6, 2) := by decide +kernel
theorem dX7_performPlainly_431 : decode cX7_performPlainly 431 = .ok (.invokevirtual 286, 3) := by decide +kernel
theorem dX7_performPlainly_434 : decode cX7_performPlainly 434 = .ok (.goto 66, 3) := by decide +kernel
theorem dX7_performPlainly_437 : decode cX7_performPlainly 437 = .ok (.aload_n 0, 1) := by decide +kernel
theorem dX7_performPlainly_438 : decode cX7_performPlainly 438 = .ok (.getfield 33, 3) := by decide +kernel
theorem dX7_performPlainly_441 : decode cX7_performPlainly 441 = .ok (.aload 4, 2) := by decide +kernel
theorem dX7_performPlainly_443 : decode cX7_performPlainly 443 = .ok (.iload 5, 2) := by decide +kernel
theorem dX7_performPlainly_445 : decode cX7_performPlainly 445 = .ok (.laload, 1) := by decide +kernel
theorem dX7_performPlainly_446 : decode cX7_performPlainly 446 = .ok (.l2i, 1) := by decide +kernel
theorem dX7_performPlainly_447 : decode cX7_performPlainly 447 = .ok (.invokevirtual 290, 3) := by decide +kernel
theorem dX7_performPlainly_450 : decode cX7_performPlainly 450 = .ok (.goto 50, 3) := by decide +kernel
theorem dX7_performPlainly_453 : decode cX7_performPlainly 453 = .ok (.aload_n 0, 1) := by decide +kernel
theorem dX7_performPlainly_454 : decode cX7_performPlainly 454 = .ok (.getfield 19, 3) := by decide +kernel
theorem dX7_performPlainly_457 : decode cX7_performPlainly 457 = .ok (.iload 5, 2) := by decide +kernel
theorem dX7_performPlainly_459 : decode cX7_performPlainly 459 = .ok (.aload 4, 2) := by decide +kernel
theorem dX7_performPlainly_461 : decode cX7_performPlainly 461 = .ok (.iload 6, 2) := by decide +kernel
theorem dX7_performPlainly_463 : decode cX7_performPlainly 463 = .ok (.laload, 1) := by decide +kernel
theorem dX7_performPlainly_464 : decode cX7_performPlainly 464 = .ok (.lastore, 1) := by decide +kernel
theorem dX7_performPlainly_465 : decode cX7_performPlainly 465 = .ok (.goto 35, 3) := by decide +kernel
theorem dX7_performPlainly_468 : decode cX7_performPlainly 468 = .ok (.aload 4, 2) := by decide +kernel
theorem dX7_performPlainly_470 : decode cX7_performPlainly 470 = .ok (.iload 5, 2) := by decide +kernel
theorem dX7_performPlainly_472 : decode cX7_performPlainly 472 = .ok (.aload_n 0, 1) := by decide +kernel
theorem dX7_performPlainly_473 : decode cX7_performPlainly 473 = .ok (.getfield 19, 3) := by decide +kernel
theorem dX7_performPlainly_476 : decode cX7_performPlainly 476 = .ok (.iload 6, 2) := by decide +kernel
theorem dX7_performPlainly_478 : decode cX7_performPlainly 478 = .ok (.laload, 1) := by decide +kernel
theorem dX7_performPlainly_479 : decode cX7_performPlainly 479 = .ok (.lastore, 1) := by decide +kernel
theorem dX7_performPlainly_480 : decode cX7_performPlainly 480 = .ok (.goto 20, 3) := by decide +kernel
theorem dX7_performPlainly_483 : decode cX7_performPlainly 483 = .ok (.aload 4, 2) := by decide +kernel
theorem dX7_performPlainly_485 : decode cX7_performPlainly 485 = .ok (.iload 5, 2) := by decide +kernel
theorem dX7_performPlainly_487 : decode cX7_performPlainly 487 = .ok (.aload 4, 2) := by decide +kernel
theorem dX7_performPlainly_489 : decode cX7_performPlainly 489 = .ok (.iload 6, 2) := by decide +kernel
theorem dX7_performPlainly_491 : decode cX7_performPlainly 491 = .ok (.laload, 1) := by decide +kernel
theorem dX7_performPlainly_492 : decode cX7_performPlainly 492 = .ok (.invokestatic 250, 3) := by decide +kernel
theorem dX7_performPlainly_495 : decode cX7_performPlainly 495 = .ok (.i2l, 1) := by decide +kernel
theorem dX7_performPlainly_496 : decode cX7_performPlainly 496 = .ok (.lastore, 1) := by decide +kernel
theorem dX7_performPlainly_497 : decode cX7_performPlainly 497 = .ok (.goto 3, 3) := by decide +kernel
theorem dX7_performPlainly_500 : decode cX7_performPlainly 500 = .ok (.return_, 1) := by decide +kernel
theorem dX7_openOrEnd_0 : decode cX7_openOrEnd 0 = .ok (.getstatic 183, 3) := by decide +kernel
theorem dX7_openOrEnd_3 : decode cX7_openOrEnd 3 = .ok (.aload_n 2, 1) := by decide +kernel
theorem dX7_openOrEnd_4 : decode cX7_openOrEnd 4 = .ok (.invokevirtual 188, 3) := by decide +kernel
theorem dX7_openOrEnd_7 : decode cX7_openOrEnd 7 = .ok (.iaload, 1) := by decide +kernel
theorem dX7_openOrEnd_8 : decode cX7_openOrEnd 8 = .ok (.tableswitch 69 6 8 #[28, 51, 60], 28) := by decide +kernel
theorem dX7_openOrEnd_36 : decode cX7_openOrEnd 36 = .ok (.aload_n 1, 1) := by decide +kernel
theorem dX7_openOrEnd_37 : decode cX7_openOrEnd 37 = .ok (.iconst 0, 1) := by decide +kernel
theorem dX7_openOrEnd_38 : decode cX7_openOrEnd 38 = .ok (.aload_n 1, 1) := by decide +kernel
theorem dX7_openOrEnd_39 : decode cX7_openOrEnd 39 = .ok (.getfield 91, 3) := by decide +kernel
theorem dX7_openOrEnd_42 : decode cX7_openOrEnd 42 = .ok (.invokevirtual 293, 3) := by decide +kernel
theorem dX7_openOrEnd_45 : decode cX7_openOrEnd 45 = .ok (.aload_n 1, 1) := by decide +kernel
theorem dX7_openOrEnd_46 : decode cX7_openOrEnd 46 = .ok (.getfield 100, 3) := by decide +kernel
theorem dX7_openOrEnd_49 : decode cX7_openOrEnd 49 = .ok (.aload_n 0, 1) := by decide +kernel
theorem dX7_openOrEnd_50 : decode cX7_openOrEnd 50 = .ok (.getfield 37, 3) := by decide +kernel
theorem dX7_openOrEnd_53 : decode cX7_openOrEnd 53 = .ok (.invokevirtual 297, 3) := by decide +kernel
theorem dX7_openOrEnd_56 : decode cX7_openOrEnd 56 = .ok (.goto 36, 3) := by decide +kernel
theorem dX7_openOrEnd_59 : decode cX7_openOrEnd 59 = .ok (.aload_n 1, 1) := by decide +kernel
theorem dX7_openOrEnd_60 : decode cX7_openOrEnd 60 = .ok (.iconst 1, 1) := by decide +kernel
theorem dX7_openOrEnd_61 : decode cX7_openOrEnd 61 = .ok (.iload_n 3, 1) := by decide +kernel
theorem dX7_openOrEnd_62 : decode cX7_openOrEnd 62 = .ok (.invokevirtual 293, 3) := by decide +kernel
theorem dX7_openOrEnd_65 : decode cX7_openOrEnd 65 = .ok (.goto 27, 3) := by decide +kernel
theorem dX7_openOrEnd_68 : decode cX7_openOrEnd 68 = .ok (.aload_n 1, 1) := by decide +kernel
theorem dX7_openOrEnd_69 : decode cX7_openOrEnd 69 = .ok (.iconst 2, 1) := by decide +kernel
theorem dX7_openOrEnd_70 : decode cX7_openOrEnd 70 = .ok (.iload_n 3, 1) := by decide +kernel
theorem dX7_openOrEnd_71 : decode cX7_openOrEnd 71 = .ok (.invokevirtual 293, 3) := by decide +kernel
theorem dX7_openOrEnd_74 : decode cX7_openOrEnd 74 = .ok (.goto 18, 3) := by decide +kernel
theorem dX7_openOrEnd_77 : decode cX7_openOrEnd 77 = .ok (.aload_n 1, 1) := by decide +kernel
theorem dX7_openOrEnd_78 : decode cX7_openOrEnd 78 = .ok (.aload_n 1, 1) := by decide +kernel
theorem dX7_openOrEnd_79 : decode cX7_openOrEnd 79 = .ok (.getfield 97, 3) := by decide +kernel
theorem dX7_openOrEnd_82 : decode cX7_openOrEnd 82 = .ok (.iconst 1, 1) := by decide +kernel
theorem dX7_openOrEnd_83 : decode cX7_openOrEnd 83 = .ok (.isub, 1) := by decide +kernel
theorem dX7_openOrEnd_84 : decode cX7_openOrEnd 84 = .ok (.invokevirtual 300, 3) := by decide +kernel
theorem dX7_openOrEnd_87 : decode cX7_openOrEnd 87 = .ok (.aload_n 1, 1) := by decide +kernel
theorem dX7_openOrEnd_88 : decode cX7_openOrEnd 88 = .ok (.iload_n 3, 1) := by decide +kernel
theorem dX7_openOrEnd_89 : decode cX7_openOrEnd 89 = .ok (.putfield 91, 3) := by decide +kernel
theorem dX7_openOrEnd_92 : decode cX7_openOrEnd 92 = .ok (.return_, 1) := by decide +kernel
theorem dX7_fork_0 : decode cX7_fork 0 = .ok (.aload_n 0, 1) := by decide +kernel
theorem dX7_fork_1 : decode cX7_fork 1 = .ok (.getfield 16, 3) := by decide +kernel
theorem dX7_fork_4 : decode cX7_fork 4 = .ok (.invokevirtual 59, 3) := by decide +kernel
theorem dX7_fork_7 : decode cX7_fork 7 = .ok (.istore 4, 2) := by decide +kernel
theorem dX7_fork_9 : decode cX7_fork 9 = .ok (.iload 4, 2) := by decide +kernel
theorem dX7_fork_11 : decode cX7_fork 11 = .ok (.bipush 16, 2) := by decide +kernel
theorem dX7_fork_13 : decode cX7_fork 13 = .ok (.if_icmp .lt 13, 3) := by decide +kernel
theorem dX7_fork_16 : decode cX7_fork 16 = .ok (.aload_n 1, 1) := by decide +kernel
theorem dX7_fork_17 : decode cX7_fork 17 = .ok (.getfield 119, 3) := by decide +kernel
theorem dX7_fork_20 : decode cX7_fork 20 = .ok (.iload_n 2, 1) := by decide +kernel
theorem dX7_fork_21 : decode cX7_fork 21 = .ok (.ldc2_w 303, 3) := by decide +kernel
theorem dX7_fork_24 : decode cX7_fork 24 = .ok (.lastore, 1) := by decide +kernel
theorem dX7_fork_25 : decode cX7_fork 25 = .ok (.return_, 1) := by decide +kernel
theorem dX7_fork_26 : decode cX7_fork 26 = .ok (.aload_n 1, 1) := by decide +kernel
theorem dX7_fork_27 : decode cX7_fork 27 = .ok (.getfield 119, 3) := by decide +kernel
theorem dX7_fork_30 : decode cX7_fork 30 = .ok (.iload_n 2, 1) := by decide +kernel
theorem dX7_fork_31 : decode cX7_fork 31 = .ok (.iload 4, 2) := by decide +kernel
theorem dX7_fork_33 : decode cX7_fork 33 = .ok (.i2l, 1) := by decide +kernel
theorem dX7_fork_34 : decode cX7_fork 34 = .ok (.lastore, 1) := by decide +kernel
theorem dX7_fork_35 : decode cX7_fork 35 = .ok (.new 50, 3) := by decide +kernel
theorem dX7_fork_38 : decode cX7_fork 38 = .ok (.dup, 1) := by decide +kernel
theorem dX7_fork_39 : decode cX7_fork 39 = .ok (.iload_n 3, 1) := by decide +kernel
theorem dX7_fork_40 : decode cX7_fork 40 = .ok (.invokespecial 52, 3) := by decide +kernel
theorem dX7_fork_43 : decode cX7_fork 43 = .ok (.astore 5, 2) := by decide +kernel
theorem dX7_fork_45 : decode cX7_fork 45 = .ok (.aload_n 1, 1) := by decide +kernel
theorem dX7_fork_46 : decode cX7_fork 46 = .ok (.getfield 119, 3) := by decide +kernel
theorem dX7_fork_49 : decode cX7_fork 49 = .ok (.iconst 0, 1) := by decide +kernel
theorem dX7_fork_50 : decode cX7_fork 50 = .ok (.aload 5, 2) := by decide +kernel
theorem dX7_fork_52 : decode cX7_fork 52 = .ok (.getfield 119, 3) := by decide +kernel
theorem dX7_fork_55 : decode cX7_fork 55 = .ok (.iconst 0, 1) := by decide +kernel
theorem dX7_fork_56 : decode cX7_fork 56 = .ok (.bipush 16, 2) := by decide +kernel
theorem dX7_fork_58 : decode cX7_fork 58 = .ok (.invokestatic 305, 3) := by decide +kernel
theorem dX7_fork_61 : decode cX7_fork 61 = .ok (.aload_n 0, 1) := by decide +kernel
theorem dX7_fork_62 : decode cX7_fork 62 = .ok (.getfield 16, 3) := by decide +kernel
theorem dX7_fork_65 : decode cX7_fork 65 = .ok (.aload 5, 2) := by decide +kernel
theorem dX7_fork_67 : decode cX7_fork 67 = .ok (.invokevirtual 55, 3) := by decide +kernel
theorem dX7_fork_70 : decode cX7_fork 70 = .ok (.pop, 1) := by decide +kernel
theorem dX7_fork_71 : decode cX7_fork 71 = .ok (.return_, 1) := by decide +kernel
theorem dX7_readVar_0 : decode cX7_readVar 0 = .ok (.aload_n 1, 1) := by decide +kernel
theorem dX7_readVar_1 : decode cX7_readVar 1 = .ok (.getfield 100, 3) := by decide +kernel
theorem dX7_readVar_4 : decode cX7_readVar 4 = .ok (.astore 4, 2) := by decide +kernel
theorem dX7_readVar_6 : decode cX7_readVar 6 = .ok (.aload_n 1, 1) := by decide +kernel
theorem dX7_readVar_7 : decode cX7_readVar 7 = .ok (.getfield 119, 3) := by decide +kernel
theorem dX7_readVar_10 : decode cX7_readVar 10 = .ok (.iload_n 3, 1) := by decide +kernel
theorem dX7_readVar_11 : decode cX7_readVar 11 = .ok (.laload, 1) := by decide +kernel
theorem dX7_readVar_12 : decode cX7_readVar 12 = .ok (.invokestatic 279, 3) := by decide +kernel
theorem dX7_readVar_15 : decode cX7_readVar 15 = .ok (.istore 5, 2) := by decide +kernel
theorem dX7_readVar_17 : decode cX7_readVar 17 = .ok (.aload 4, 2) := by decide +kernel
theorem dX7_readVar_19 : decode cX7_readVar 19 = .ok (.iload 5, 2) := by decide +kernel
theorem dX7_readVar_21 : decode cX7_readVar 21 = .ok (.invokevirtual 311, 3) := by decide +kernel
theorem dX7_readVar_24 : decode cX7_readVar 24 = .ok (.istore 6, 2) := by decide +kernel
theorem dX7_readVar_26 : decode cX7_readVar 26 = .ok (.iload 6, 2) := by decide +kernel
theorem dX7_readVar_28 : decode cX7_readVar 28 = .ok (.ifCond .lt 19, 3) := by decide +kernel
theorem dX7_readVar_31 : decode cX7_readVar 31 = .ok (.aload_n 1, 1) := by decide +kernel
theorem dX7_readVar_32 : decode cX7_readVar 32 = .ok (.getfield 119, 3) := by decide +kernel
theorem dX7_readVar_35 : decode cX7_readVar 35 = .ok (.iload_n 2, 1) := by decide +kernel
theorem dX7_readVar_36 : decode cX7_readVar 36 = .ok (.aload 4, 2) := by decide +kernel
theorem dX7_readVar_38 : decode cX7_readVar 38 = .ok (.getfield 314, 3) := by decide +kernel
theorem dX7_readVar_41 : decode cX7_readVar 41 = .ok (.iload 6, 2) := by decide +kernel
theorem dX7_readVar_43 : decode cX7_readVar 43 = .ok (.laload, 1) := by decide +kernel
theorem dX7_readVar_44 : decode cX7_readVar 44 = .ok (.lastore, 1) := by decide +kernel
theorem dX7_readVar_45 : decode cX7_readVar 45 = .ok (.iconst 0, 1) := by decide +kernel
theorem dX7_readVar_46 : decode cX7_readVar 46 = .ok (.ireturn, 1) := by decide +kernel
theorem dX7_readVar_47 : decode cX7_readVar 47 = .ok (.aload_n 0, 1) := by decide +kernel
theorem dX7_readVar_48 : decode cX7_readVar 48 = .ok (.getfield 26, 3) := by decide +kernel
theorem dX7_readVar_51 : decode cX7_readVar 51 = .ok (.getfield 132, 3) := by decide +kernel
theorem dX7_readVar_54 : decode cX7_readVar 54 = .ok (.iload 5, 2) := by decide +kernel
theorem dX7_readVar_56 : decode cX7_readVar 56 = .ok (.laload, 1) := by decide +kernel
theorem dX7_readVar_57 : decode cX7_readVar 57 = .ok (.aload 4, 2) := by decide +kernel
theorem dX7_readVar_59 : decode cX7_readVar 59 = .ok (.getfield 116, 3) := by decide +kernel
theorem dX7_readVar_62 : decode cX7_readVar 62 = .ok (.i2l, 1) := by decide +kernel
theorem dX7_readVar_63 : decode cX7_readVar 63 = .ok (.lcmp, 1) := by decide +kernel
theorem dX7_readVar_64 : decode cX7_readVar 64 = .ok (.ifCond .le 10, 3) := by decide +kernel
theorem dX7_readVar_67 : decode cX7_readVar 67 = .ok (.aload_n 0, 1) := by decide +kernel
theorem dX7_readVar_68 : decode cX7_readVar 68 = .ok (.aload_n 1, 1) := by decide +kernel
theorem dX7_readVar_69 : decode cX7_readVar 69 = .ok (.invokevirtual 317, 3) := by decide +kernel
theorem dX7_readVar_72 : decode cX7_readVar 72 = .ok (.iconst 0, 1) := by decide +kernel
theorem dX7_readVar_73 : decode cX7_readVar 73 = .ok (.ireturn, 1) := by decide +kernel
theorem dX7_readVar_74 : decode cX7_readVar 74 = .ok (.aload 4, 2) := by decide +kernel
theorem dX7_readVar_76 : decode cX7_readVar 76 = .ok (.iload 5, 2) := by decide +kernel
theorem dX7_readVar_78 : decode cX7_readVar 78 = .ok (.invokevirtual 320, 3) := by decide +kernel
theorem dX7_readVar_81 : decode cX7_readVar 81 = .ok (.ifCond .ne 23, 3) := by decide +kernel
theorem dX7_readVar_84 : decode cX7_readVar 84 = .ok (.aload 4, 2) := by decide +kernel
theorem dX7_readVar_86 : decode cX7_readVar 86 = .ok (.getfield 104, 3) := by decide +kernel
theorem dX7_readVar_89 : decode cX7_readVar 89 = .ok (.bipush 40, 2) := by decide +kernel
theorem dX7_readVar_91 : decode cX7_readVar 91 = .ok (.if_icmp .lt 6, 3) := by decide +kernel
theorem dX7_readVar_94 : decode cX7_readVar 94 = .ok (.bipush (-5), 2) := by decide +kernel
theorem dX7_readVar_96 : decode cX7_readVar 96 = .ok (.ireturn, 1) := by decide +kernel
theorem dX7_readVar_97 : decode cX7_readVar 97 = .ok (.aload 4, 2) := by decide +kernel
theorem dX7_readVar_99 : decode cX7_readVar 99 = .ok (.iload 5, 2) := by decide +kernel
theorem dX7_readVar_101 : decode cX7_readVar 101 = .ok (.invokevirtual 324, 3) := by decide +kernel
theorem dX7_readVar_104 : decode cX7_readVar 104 = .ok (.aload_n 1, 1) := by decide +kernel
theorem dX7_readVar_105 : decode cX7_readVar 105 = .ok (.getfield 119, 3) := by decide +kernel
theorem dX7_readVar_108 : decode cX7_readVar 108 = .ok (.iload_n 2, 1) := by decide +kernel
theorem dX7_readVar_109 : decode cX7_readVar 109 = .ok (.aload_n 0, 1) := by decide +kernel
theorem dX7_readVar_110 : decode cX7_readVar 110 = .ok (.getfield 26, 3) := by decide +kernel
theorem dX7_readVar_113 : decode cX7_readVar 113 = .ok (.getfield 129, 3) := by decide +kernel
theorem dX7_readVar_116 : decode cX7_readVar 116 = .ok (.iload 5, 2) := by decide +kernel
theorem dX7_readVar_118 : decode cX7_readVar 118 = .ok (.laload, 1) := by decide +kernel
theorem dX7_readVar_119 : decode cX7_readVar 119 = .ok (.lastore, 1) := by decide +kernel
theorem dX7_readVar_120 : decode cX7_readVar 120 = .ok (.iconst 0, 1) := by decide +kernel
theorem dX7_readVar_121 : decode cX7_readVar 121 = .ok (.ireturn, 1) := by decide +kernel
theorem dX7_writeVar_0 : decode cX7_writeVar 0 = .ok (.aload_n 1, 1) := by decide +kernel
theorem dX7_writeVar_1 : decode cX7_writeVar 1 = .ok (.getfield 100, 3) := by decide +kernel
theorem dX7_writeVar_4 : decode cX7_writeVar 4 = .ok (.getfield 109, 3) := by decide +kernel
theorem dX7_writeVar_7 : decode cX7_writeVar 7 = .ok (.bipush 40, 2) := by decide +kernel
theorem dX7_writeVar_9 : decode cX7_writeVar 9 = .ok (.if_icmp .lt 6, 3) := by decide +kernel
theorem dX7_writeVar_12 : decode cX7_writeVar 12 = .ok (.bipush (-5), 2) := by decide +kernel
theorem dX7_writeVar_14 : decode cX7_writeVar 14 = .ok (.ireturn, 1) := by decide +kernel
theorem dX7_writeVar_15 : decode cX7_writeVar 15 = .ok (.aload_n 1, 1) := by decide +kernel
theorem dX7_writeVar_16 : decode cX7_writeVar 16 = .ok (.getfield 100, 3) := by decide +kernel
theorem dX7_writeVar_19 : decode cX7_writeVar 19 = .ok (.aload_n 1, 1) := by decide +kernel
theorem dX7_writeVar_20 : decode cX7_writeVar 20 = .ok (.getfield 119, 3) := by decide +kernel
theorem dX7_writeVar_23 : decode cX7_writeVar 23 = .ok (.iload_n 2, 1) := by decide +kernel
theorem dX7_writeVar_24 : decode cX7_writeVar 24 = .ok (.laload, 1) := by decide +kernel
theorem dX7_writeVar_25 : decode cX7_writeVar 25 = .ok (.invokestatic 279, 3) := by decide +kernel
theorem dX7_writeVar_28 : decode cX7_writeVar 28 = .ok (.aload_n 1, 1) := by decide +kernel
theorem dX7_writeVar_29 : decode cX7_writeVar 29 = .ok (.getfield 119, 3) := by decide +kernel
theorem dX7_writeVar_32 : decode cX7_writeVar 32 = .ok (.iload_n 3, 1) := by decide +kernel
theorem dX7_writeVar_33 : decode cX7_writeVar 33 = .ok (.laload, 1) := by decide +kernel
theorem dX7_writeVar_34 : decode cX7_writeVar 34 = .ok (.invokevirtual 327, 3) := by decide +kernel
theorem dX7_writeVar_37 : decode cX7_writeVar 37 = .ok (.iconst 0, 1) := by decide +kernel
theorem dX7_writeVar_38 : decode cX7_writeVar 38 = .ok (.ireturn, 1) := by decide +kernel
theorem dX7_abort_0 : decode cX7_abort 0 = .ok (.aload_n 0, 1) := by decide +kernel
theorem dX7_abort_1 : decode cX7_abort 1 = .ok (.dup, 1) := by decide +kernel
theorem dX7_abort_2 : decode cX7_abort 2 = .ok (.getfield 41, 3) := by decide +kernel
theorem dX7_abort_5 : decode cX7_abort 5 = .ok (.iconst 1, 1) := by decide +kernel
theorem dX7_abort_6 : decode cX7_abort 6 = .ok (.iadd, 1) := by decide +kernel
theorem dX7_abort_7 : decode cX7_abort 7 = .ok (.putfield 41, 3) := by decide +kernel
theorem dX7_abort_10 : decode cX7_abort 10 = .ok (.aload_n 1, 1) := by decide +kernel
theorem dX7_abort_11 : decode cX7_abort 11 = .ok (.aload_n 0, 1) := by decide +kernel
theorem dX7_abort_12 : decode cX7_abort 12 = .ok (.getfield 37, 3) := by decide +kernel
theorem dX7_abort_15 : decode cX7_abort 15 = .ok (.invokevirtual 331, 3) := by decide +kernel
theorem dX7_abort_18 : decode cX7_abort 18 = .ok (.return_, 1) := by decide +kernel
theorem dX7_commit_0 : decode cX7_commit 0 = .ok (.aload_n 1, 1) := by decide +kernel
theorem dX7_commit_1 : decode cX7_commit 1 = .ok (.getfield 100, 3) := by decide +kernel
theorem dX7_commit_4 : decode cX7_commit 4 = .ok (.astore_n 2, 1) := by decide +kernel
theorem dX7_commit_5 : decode cX7_commit 5 = .ok (.aload_n 2, 1) := by decide +kernel
theorem dX7_commit_6 : decode cX7_commit 6 = .ok (.aload_n 0, 1) := by decide +kernel
theorem dX7_commit_7 : decode cX7_commit 7 = .ok (.getfield 26, 3) := by decide +kernel
theorem dX7_commit_10 : decode cX7_commit 10 = .ok (.invokevirtual 334, 3) := by decide +kernel
theorem dX7_commit_13 : decode cX7_commit 13 = .ok (.ifCond .ne 9, 3) := by decide +kernel
theorem dX7_commit_16 : decode cX7_commit 16 = .ok (.aload_n 0, 1) := by decide +kernel
theorem dX7_commit_17 : decode cX7_commit 17 = .ok (.aload_n 1, 1) := by decide +kernel
theorem dX7_commit_18 : decode cX7_commit 18 = .ok (.invokevirtual 317, 3) := by decide +kernel
theorem dX7_commit_21 : decode cX7_commit 21 = .ok (.return_, 1) := by decide +kernel
theorem dX7_commit_22 : decode cX7_commit 22 = .ok (.aload_n 1, 1) := by decide +kernel
theorem dX7_commit_23 : decode cX7_commit 23 = .ok (.aload_n 1, 1) := by decide +kernel
theorem dX7_commit_24 : decode cX7_commit 24 = .ok (.getfield 97, 3) := by decide +kernel
theorem dX7_commit_27 : decode cX7_commit 27 = .ok (.iconst 1, 1) := by decide +kernel
theorem dX7_commit_28 : decode cX7_commit 28 = .ok (.isub, 1) := by decide +kernel
theorem dX7_commit_29 : decode cX7_commit 29 = .ok (.invokevirtual 300, 3) := by decide +kernel
theorem dX7_commit_32 : decode cX7_commit 32 = .ok (.aload_n 2, 1) := by decide +kernel
theorem dX7_commit_33 : decode cX7_commit 33 = .ok (.getfield 109, 3) := by decide +kernel
theorem dX7_commit_36 : decode cX7_commit 36 = .ok (.ifCond .le 57, 3) := by decide +kernel
theorem dX7_commit_39 : decode cX7_commit 39 = .ok (.aload_n 0, 1) := by decide +kernel
theorem dX7_commit_40 : decode cX7_commit 40 = .ok (.dup, 1) := by decide +kernel
theorem dX7_commit_41 : decode cX7_commit 41 = .ok (.getfield 37, 3) := by decide +kernel
theorem dX7_commit_44 : decode cX7_commit 44 = .ok (.iconst 1, 1) := by decide +kernel
theorem dX7_commit_45 : decode cX7_commit 45 = .ok (.iadd, 1) := by decide +kernel
theorem dX7_commit_46 : decode cX7_commit 46 = .ok (.putfield 37, 3) := by decide +kernel
theorem dX7_commit_49 : decode cX7_commit 49 = .ok (.iconst 0, 1) := by decide +kernel
theorem dX7_commit_50 : decode cX7_commit 50 = .ok (.istore_n 3, 1) := by decide +kernel
theorem dX7_commit_51 : decode cX7_commit 51 = .ok (.iload_n 3, 1) := by decide +kernel
theorem dX7_commit_52 : decode cX7_commit 52 = .ok (.aload_n 2, 1) := by decide +kernel
theorem dX7_commit_53 : decode cX7_commit 53 = .ok (.getfield 109, 3) := by decide +kernel
theorem dX7_commit_56 : decode cX7_commit 56 = .ok (.if_icmp .ge 32, 3) := by decide +kernel
theorem dX7_commit_59 : decode cX7_commit 59 = .ok (.aload_n 0, 1) := by decide +kernel
theorem dX7_commit_60 : decode cX7_commit 60 = .ok (.getfield 26, 3) := by decide +kernel
theorem dX7_commit_63 : decode cX7_commit 63 = .ok (.aload_n 2, 1) := by decide +kernel
theorem dX7_commit_64 : decode cX7_commit 64 = .ok (.getfield 338, 3) := by decide +kernel
theorem dX7_commit_67 : decode cX7_commit 67 = .ok (.iload_n 3, 1) := by decide +kernel
theorem dX7_commit_68 : decode cX7_commit 68 = .ok (.iaload, 1) := by decide +kernel
theorem dX7_commit_69 : decode cX7_commit 69 = .ok (.aload_n 2, 1) := by decide +kernel
theorem dX7_commit_70 : decode cX7_commit 70 = .ok (.getfield 314, 3) := by decide +kernel
theorem dX7_commit_73 : decode cX7_commit 73 = .ok (.iload_n 3, 1) := by decide +kernel
theorem dX7_commit_74 : decode cX7_commit 74 = .ok (.laload, 1) := by decide +kernel
theorem dX7_commit_75 : decode cX7_commit 75 = .ok (.aload_n 0, 1) := by decide +kernel
theorem dX7_commit_76 : decode cX7_commit 76 = .ok (.getfield 37, 3) := by decide +kernel
theorem dX7_commit_79 : decode cX7_commit 79 = .ok (.invokevirtual 341, 3) := by decide +kernel
theorem dX7_commit_82 : decode cX7_commit 82 = .ok (.iinc 3 1, 3) := by decide +kernel
theorem dX7_commit_85 : decode cX7_commit 85 = .ok (.goto (-34), 3) := by decide +kernel
theorem dX7_commit_88 : decode cX7_commit 88 = .ok (.aload_n 0, 1) := by decide +kernel
theorem dX7_commit_89 : decode cX7_commit 89 = .ok (.aload_n 2, 1) := by decide +kernel
theorem dX7_commit_90 : decode cX7_commit 90 = .ok (.invokevirtual 345, 3) := by decide +kernel
theorem dX7_commit_93 : decode cX7_commit 93 = .ok (.aload_n 2, 1) := by decide +kernel
theorem dX7_commit_94 : decode cX7_commit 94 = .ok (.invokevirtual 349, 3) := by decide +kernel
theorem dX7_commit_97 : decode cX7_commit 97 = .ok (.return_, 1) := by decide +kernel
theorem dX7_wakeReadersOf_0 : decode cX7_wakeReadersOf 0 = .ok (.iconst 0, 1) := by decide +kernel
theorem dX7_wakeReadersOf_1 : decode cX7_wakeReadersOf 1 = .ok (.istore_n 2, 1) := by decide +kernel
theorem dX7_wakeReadersOf_2 : decode cX7_wakeReadersOf 2 = .ok (.iload_n 2, 1) := by decide +kernel
theorem dX7_wakeReadersOf_3 : decode cX7_wakeReadersOf 3 = .ok (.aload_n 0, 1) := by decide +kernel
theorem dX7_wakeReadersOf_4 : decode cX7_wakeReadersOf 4 = .ok (.getfield 16, 3) := by decide +kernel
theorem dX7_wakeReadersOf_7 : decode cX7_wakeReadersOf 7 = .ok (.invokevirtual 59, 3) := by decide +kernel
theorem dX7_wakeReadersOf_10 : decode cX7_wakeReadersOf 10 = .ok (.if_icmp .ge 53, 3) := by decide +kernel
theorem dX7_wakeReadersOf_13 : decode cX7_wakeReadersOf 13 = .ok (.aload_n 0, 1) := by decide +kernel
theorem dX7_wakeReadersOf_14 : decode cX7_wakeReadersOf 14 = .ok (.getfield 16, 3) := by decide +kernel
theorem dX7_wakeReadersOf_17 : decode cX7_wakeReadersOf 17 = .ok (.iload_n 2, 1) := by decide +kernel
theorem dX7_wakeReadersOf_18 : decode cX7_wakeReadersOf 18 = .ok (.invokevirtual 77, 3) := by decide +kernel
theorem dX7_wakeReadersOf_21 : decode cX7_wakeReadersOf 21 = .ok (.checkcast 50, 3) := by decide +kernel
theorem dX7_wakeReadersOf_24 : decode cX7_wakeReadersOf 24 = .ok (.astore_n 3, 1) := by decide +kernel
theorem dX7_wakeReadersOf_25 : decode cX7_wakeReadersOf 25 = .ok (.aload_n 3, 1) := by decide +kernel
theorem dX7_wakeReadersOf_26 : decode cX7_wakeReadersOf 26 = .ok (.getfield 81, 3) := by decide +kernel
theorem dX7_wakeReadersOf_29 : decode cX7_wakeReadersOf 29 = .ok (.iconst 2, 1) := by decide +kernel
theorem dX7_wakeReadersOf_30 : decode cX7_wakeReadersOf 30 = .ok (.if_icmp .ne 27, 3) := by decide +kernel
theorem dX7_wakeReadersOf_33 : decode cX7_wakeReadersOf 33 = .ok (.aload_n 3, 1) := by decide +kernel
theorem dX7_wakeReadersOf_34 : decode cX7_wakeReadersOf 34 = .ok (.getfield 100, 3) := by decide +kernel
theorem dX7_wakeReadersOf_37 : decode cX7_wakeReadersOf 37 = .ok (.aload_n 1, 1) := by decide +kernel
theorem dX7_wakeReadersOf_38 : decode cX7_wakeReadersOf 38 = .ok (.invokevirtual 352, 3) := by decide +kernel
theorem dX7_wakeReadersOf_41 : decode cX7_wakeReadersOf 41 = .ok (.ifCond .eq 16, 3) := by decide +kernel
theorem dX7_wakeReadersOf_44 : decode cX7_wakeReadersOf 44 = .ok (.aload_n 3, 1) := by decide +kernel
theorem dX7_wakeReadersOf_45 : decode cX7_wakeReadersOf 45 = .ok (.iconst 1, 1) := by decide +kernel
theorem dX7_wakeReadersOf_46 : decode cX7_wakeReadersOf 46 = .ok (.putfield 81, 3) := by decide +kernel
theorem dX7_wakeReadersOf_49 : decode cX7_wakeReadersOf 49 = .ok (.aload_n 3, 1) := by decide +kernel
theorem dX7_wakeReadersOf_50 : decode cX7_wakeReadersOf 50 = .ok (.aload_n 0, 1) := by decide +kernel
theorem dX7_wakeReadersOf_51 : decode cX7_wakeReadersOf 51 = .ok (.getfield 37, 3) := by decide +kernel
theorem dX7_wakeReadersOf_54 : decode cX7_wakeReadersOf 54 = .ok (.invokevirtual 331, 3) := by decide +kernel
theorem dX7_wakeReadersOf_57 : decode cX7_wakeReadersOf 57 = .ok (.iinc 2 1, 3) := by decide +kernel
theorem dX7_wakeReadersOf_60 : decode cX7_wakeReadersOf 60 = .ok (.goto (-58), 3) := by decide +kernel
theorem dX7_wakeReadersOf_63 : decode cX7_wakeReadersOf 63 = .ok (.return_, 1) := by decide +kernel
theorem dX7_retry_0 : decode cX7_retry 0 = .ok (.aload_n 1, 1) := by decide +kernel
theorem dX7_retry_1 : decode cX7_retry 1 = .ok (.getfield 97, 3) := by decide +kernel
theorem dX7_retry_4 : decode cX7_retry 4 = .ok (.iconst 1, 1) := by decide +kernel
theorem dX7_retry_5 : decode cX7_retry 5 = .ok (.isub, 1) := by decide +kernel
theorem dX7_retry_6 : decode cX7_retry 6 = .ok (.istore_n 2, 1) := by decide +kernel
theorem dX7_retry_7 : decode cX7_retry 7 = .ok (.iload_n 2, 1) := by decide +kernel
theorem dX7_retry_8 : decode cX7_retry 8 = .ok (.aload_n 1, 1) := by decide +kernel
theorem dX7_retry_9 : decode cX7_retry 9 = .ok (.getfield 257, 3) := by decide +kernel
theorem dX7_retry_12 : decode cX7_retry 12 = .ok (.if_icmp .le 25, 3) := by decide +kernel
theorem dX7_retry_15 : decode cX7_retry 15 = .ok (.aload_n 1, 1) := by decide +kernel
theorem dX7_retry_16 : decode cX7_retry 16 = .ok (.getfield 356, 3) := by decide +kernel
theorem dX7_retry_19 : decode cX7_retry 19 = .ok (.iload_n 2, 1) := by decide +kernel
theorem dX7_retry_20 : decode cX7_retry 20 = .ok (.iaload, 1) := by decide +kernel
theorem dX7_retry_21 : decode cX7_retry 21 = .ok (.iconst 1, 1) := by decide +kernel
theorem dX7_retry_22 : decode cX7_retry 22 = .ok (.if_icmp .ne 9, 3) := by decide +kernel
theorem dX7_retry_25 : decode cX7_retry 25 = .ok (.aload_n 1, 1) := by decide +kernel
theorem dX7_retry_26 : decode cX7_retry 26 = .ok (.iload_n 2, 1) := by decide +kernel
theorem dX7_retry_27 : decode cX7_retry 27 = .ok (.invokevirtual 359, 3) := by decide +kernel
theorem dX7_retry_30 : decode cX7_retry 30 = .ok (.return_, 1) := by decide +kernel
theorem dX7_retry_31 : decode cX7_retry 31 = .ok (.iinc 2 (-1), 3) := by decide +kernel
theorem dX7_retry_34 : decode cX7_retry 34 = .ok (.goto (-27), 3) := by decide +kernel
theorem dX7_retry_37 : decode cX7_retry 37 = .ok (.aload_n 1, 1) := by decide +kernel
theorem dX7_retry_38 : decode cX7_retry 38 = .ok (.getfield 100, 3) := by decide +kernel
theorem dX7_retry_41 : decode cX7_retry 41 = .ok (.aload_n 0, 1) := by decide +kernel
theorem dX7_retry_42 : decode cX7_retry 42 = .ok (.getfield 26, 3) := by decide +kernel
theorem dX7_retry_45 : decode cX7_retry 45 = .ok (.invokevirtual 334, 3) := by decide +kernel
theorem dX7_retry_48 : decode cX7_retry 48 = .ok (.ifCond .eq 11, 3) := by decide +kernel
theorem dX7_retry_51 : decode cX7_retry 51 = .ok (.aload_n 1, 1) := by decide +kernel
theorem dX7_retry_52 : decode cX7_retry 52 = .ok (.iconst 2, 1) := by decide +kernel
theorem dX7_retry_53 : decode cX7_retry 53 = .ok (.putfield 81, 3) := by decide +kernel
theorem dX7_retry_56 : decode cX7_retry 56 = .ok (.goto 8, 3) := by decide +kernel
theorem dX7_retry_59 : decode cX7_retry 59 = .ok (.aload_n 0, 1) := by decide +kernel
theorem dX7_retry_60 : decode cX7_retry 60 = .ok (.aload_n 1, 1) := by decide +kernel
theorem dX7_retry_61 : decode cX7_retry 61 = .ok (.invokevirtual 317, 3) := by decide +kernel
theorem dX7_retry_64 : decode cX7_retry 64 = .ok (.return_, 1) := by decide +kernel
theorem dX7_raise_0 : decode cX7_raise 0 = .ok (.aload_n 1, 1) := by decide +kernel
theorem dX7_raise_1 : decode cX7_raise 1 = .ok (.getfield 97, 3) := by decide +kernel
theorem dX7_raise_4 : decode cX7_raise 4 = .ok (.iconst 1, 1) := by decide +kernel
theorem dX7_raise_5 : decode cX7_raise 5 = .ok (.isub, 1) := by decide +kernel
theorem dX7_raise_6 : decode cX7_raise 6 = .ok (.istore_n 3, 1) := by decide +kernel
theorem dX7_raise_7 : decode cX7_raise 7 = .ok (.iload_n 3, 1) := by decide +kernel
theorem dX7_raise_8 : decode cX7_raise 8 = .ok (.ifCond .lt 70, 3) := by decide +kernel
theorem dX7_raise_11 : decode cX7_raise 11 = .ok (.aload_n 1, 1) := by decide +kernel
theorem dX7_raise_12 : decode cX7_raise 12 = .ok (.getfield 356, 3) := by decide +kernel
theorem dX7_raise_15 : decode cX7_raise 15 = .ok (.iload_n 3, 1) := by decide +kernel
theorem dX7_raise_16 : decode cX7_raise 16 = .ok (.iaload, 1) := by decide +kernel
theorem dX7_raise_17 : decode cX7_raise 17 = .ok (.istore 4, 2) := by decide +kernel
theorem dX7_raise_19 : decode cX7_raise 19 = .ok (.iload 4, 2) := by decide +kernel
theorem dX7_raise_21 : decode cX7_raise 21 = .ok (.iconst 2, 1) := by decide +kernel
theorem dX7_raise_22 : decode cX7_raise 22 = .ok (.if_icmp .ne 18, 3) := by decide +kernel
theorem dX7_raise_25 : decode cX7_raise 25 = .ok (.aload_n 1, 1) := by decide +kernel
theorem dX7_raise_26 : decode cX7_raise 26 = .ok (.iload_n 3, 1) := by decide +kernel
theorem dX7_raise_27 : decode cX7_raise 27 = .ok (.invokevirtual 359, 3) := by decide +kernel
theorem dX7_raise_30 : decode cX7_raise 30 = .ok (.aload_n 1, 1) := by decide +kernel
theorem dX7_raise_31 : decode cX7_raise 31 = .ok (.getfield 119, 3) := by decide +kernel
theorem dX7_raise_34 : decode cX7_raise 34 = .ok (.bipush 15, 2) := by decide +kernel
theorem dX7_raise_36 : decode cX7_raise 36 = .ok (.iload_n 2, 1) := by decide +kernel
theorem dX7_raise_37 : decode cX7_raise 37 = .ok (.i2l, 1) := by decide +kernel
theorem dX7_raise_38 : decode cX7_raise 38 = .ok (.lastore, 1) := by decide +kernel
theorem dX7_raise_39 : decode cX7_raise 39 = .ok (.return_, 1) := by decide +kernel
theorem dX7_raise_40 : decode cX7_raise 40 = .ok (.iload 4, 2) := by decide +kernel
theorem dX7_raise_42 : decode cX7_raise 42 = .ok (.ifCond .ne 30, 3) := by decide +kernel
theorem dX7_raise_45 : decode cX7_raise 45 = .ok (.aload_n 1, 1) := by decide +kernel
theorem dX7_raise_46 : decode cX7_raise 46 = .ok (.getfield 100, 3) := by decide +kernel
theorem dX7_raise_49 : decode cX7_raise 49 = .ok (.aload_n 0, 1) := by decide +kernel
theorem dX7_raise_50 : decode cX7_raise 50 = .ok (.getfield 26, 3) := by decide +kernel
theorem dX7_raise_53 : decode cX7_raise 53 = .ok (.invokevirtual 334, 3) := by decide +kernel
theorem dX7_raise_56 : decode cX7_raise 56 = .ok (.ifCond .ne 9, 3) := by decide +kernel
theorem dX7_raise_59 : decode cX7_raise 59 = .ok (.aload_n 0, 1) := by decide +kernel
theorem dX7_raise_60 : decode cX7_raise 60 = .ok (.aload_n 1, 1) := by decide +kernel
theorem dX7_raise_61 : decode cX7_raise 61 = .ok (.invokevirtual 317, 3) := by decide +kernel
theorem dX7_raise_64 : decode cX7_raise 64 = .ok (.return_, 1) := by decide +kernel
theorem dX7_raise_65 : decode cX7_raise 65 = .ok (.aload_n 1, 1) := by decide +kernel
theorem dX7_raise_66 : decode cX7_raise 66 = .ok (.getfield 100, 3) := by decide +kernel
theorem dX7_raise_69 : decode cX7_raise 69 = .ok (.invokevirtual 349, 3) := by decide +kernel
theorem dX7_raise_72 : decode cX7_raise 72 = .ok (.iinc 3 (-1), 3) := by decide +kernel
theorem dX7_raise_75 : decode cX7_raise 75 = .ok (.goto (-68), 3) := by decide +kernel
theorem dX7_raise_78 : decode cX7_raise 78 = .ok (.aload_n 1, 1) := by decide +kernel
theorem dX7_raise_79 : decode cX7_raise 79 = .ok (.iload_n 2, 1) := by decide +kernel
theorem dX7_raise_80 : decode cX7_raise 80 = .ok (.invokevirtual 161, 3) := by decide +kernel
theorem dX7_raise_83 : decode cX7_raise 83 = .ok (.return_, 1) := by decide +kernel
theorem dX7_markAndSlide_0 : decode cX7_markAndSlide 0 = .ok (.aload_n 0, 1) := by decide +kernel
theorem dX7_markAndSlide_1 : decode cX7_markAndSlide 1 = .ok (.dup, 1) := by decide +kernel
theorem dX7_markAndSlide_2 : decode cX7_markAndSlide 2 = .ok (.getfield 44, 3) := by decide +kernel
theorem dX7_markAndSlide_5 : decode cX7_markAndSlide 5 = .ok (.iconst 1, 1) := by decide +kernel
theorem dX7_markAndSlide_6 : decode cX7_markAndSlide 6 = .ok (.iadd, 1) := by decide +kernel
theorem dX7_markAndSlide_7 : decode cX7_markAndSlide 7 = .ok (.putfield 44, 3) := by decide +kernel
theorem dX7_markAndSlide_10 : decode cX7_markAndSlide 10 = .ok (.aload_n 0, 1) := by decide +kernel
theorem dX7_markAndSlide_11 : decode cX7_markAndSlide 11 = .ok (.getfield 26, 3) := by decide +kernel
theorem dX7_markAndSlide_14 : decode cX7_markAndSlide 14 = .ok (.invokevirtual 362, 3) := by decide +kernel
theorem dX7_markAndSlide_17 : decode cX7_markAndSlide 17 = .ok (.aload_n 0, 1) := by decide +kernel
theorem dX7_markAndSlide_18 : decode cX7_markAndSlide 18 = .ok (.getfield 26, 3) := by decide +kernel
theorem dX7_markAndSlide_21 : decode cX7_markAndSlide 21 = .ok (.aload_n 0, 1) := by decide +kernel
theorem dX7_markAndSlide_22 : decode cX7_markAndSlide 22 = .ok (.getfield 19, 3) := by decide +kernel
theorem dX7_markAndSlide_25 : decode cX7_markAndSlide 25 = .ok (.bipush 8, 2) := by decide +kernel
theorem dX7_markAndSlide_27 : decode cX7_markAndSlide 27 = .ok (.invokevirtual 365, 3) := by decide +kernel
theorem dX7_markAndSlide_30 : decode cX7_markAndSlide 30 = .ok (.iconst 0, 1) := by decide +kernel
theorem dX7_markAndSlide_31 : decode cX7_markAndSlide 31 = .ok (.istore_n 1, 1) := by decide +kernel
theorem dX7_markAndSlide_32 : decode cX7_markAndSlide 32 = .ok (.iload_n 1, 1) := by decide +kernel
theorem dX7_markAndSlide_33 : decode cX7_markAndSlide 33 = .ok (.aload_n 0, 1) := by decide +kernel
theorem dX7_markAndSlide_34 : decode cX7_markAndSlide 34 = .ok (.getfield 16, 3) := by decide +kernel
theorem dX7_markAndSlide_37 : decode cX7_markAndSlide 37 = .ok (.invokevirtual 59, 3) := by decide +kernel
theorem dX7_markAndSlide_40 : decode cX7_markAndSlide 40 = .ok (.if_icmp .ge 24, 3) := by decide +kernel
theorem dX7_markAndSlide_43 : decode cX7_markAndSlide 43 = .ok (.aload_n 0, 1) := by decide +kernel
theorem dX7_markAndSlide_44 : decode cX7_markAndSlide 44 = .ok (.aload_n 0, 1) := by decide +kernel
theorem dX7_markAndSlide_45 : decode cX7_markAndSlide 45 = .ok (.getfield 16, 3) := by decide +kernel
theorem dX7_markAndSlide_48 : decode cX7_markAndSlide 48 = .ok (.iload_n 1, 1) := by decide +kernel
theorem dX7_markAndSlide_49 : decode cX7_markAndSlide 49 = .ok (.invokevirtual 77, 3) := by decide +kernel
theorem dX7_markAndSlide_52 : decode cX7_markAndSlide 52 = .ok (.checkcast 50, 3) := by decide +kernel
theorem dX7_markAndSlide_55 : decode cX7_markAndSlide 55 = .ok (.invokevirtual 369, 3) := by decide +kernel
theorem dX7_markAndSlide_58 : decode cX7_markAndSlide 58 = .ok (.iinc 1 1, 3) := by decide +kernel
theorem dX7_markAndSlide_61 : decode cX7_markAndSlide 61 = .ok (.goto (-29), 3) := by decide +kernel
theorem dX7_markAndSlide_64 : decode cX7_markAndSlide 64 = .ok (.aload_n 0, 1) := by decide +kernel
theorem dX7_markAndSlide_65 : decode cX7_markAndSlide 65 = .ok (.getfield 26, 3) := by decide +kernel
theorem dX7_markAndSlide_68 : decode cX7_markAndSlide 68 = .ok (.invokevirtual 372, 3) := by decide +kernel
theorem dX7_markAndSlide_71 : decode cX7_markAndSlide 71 = .ok (.aload_n 0, 1) := by decide +kernel
theorem dX7_markAndSlide_72 : decode cX7_markAndSlide 72 = .ok (.getfield 26, 3) := by decide +kernel
theorem dX7_markAndSlide_75 : decode cX7_markAndSlide 75 = .ok (.invokevirtual 375, 3) := by decide +kernel
theorem dX7_markAndSlide_78 : decode cX7_markAndSlide 78 = .ok (.aload_n 0, 1) := by decide +kernel
theorem dX7_markAndSlide_79 : decode cX7_markAndSlide 79 = .ok (.getfield 26, 3) := by decide +kernel
theorem dX7_markAndSlide_82 : decode cX7_markAndSlide 82 = .ok (.aload_n 0, 1) := by decide +kernel
theorem dX7_markAndSlide_83 : decode cX7_markAndSlide 83 = .ok (.getfield 19, 3) := by decide +kernel
theorem dX7_markAndSlide_86 : decode cX7_markAndSlide 86 = .ok (.bipush 8, 2) := by decide +kernel
theorem dX7_markAndSlide_88 : decode cX7_markAndSlide 88 = .ok (.invokevirtual 378, 3) := by decide +kernel
theorem dX7_markAndSlide_91 : decode cX7_markAndSlide 91 = .ok (.iconst 0, 1) := by decide +kernel
theorem dX7_markAndSlide_92 : decode cX7_markAndSlide 92 = .ok (.istore_n 1, 1) := by decide +kernel
theorem dX7_markAndSlide_93 : decode cX7_markAndSlide 93 = .ok (.iload_n 1, 1) := by decide +kernel
theorem dX7_markAndSlide_94 : decode cX7_markAndSlide 94 = .ok (.aload_n 0, 1) := by decide +kernel
theorem dX7_markAndSlide_95 : decode cX7_markAndSlide 95 = .ok (.getfield 16, 3) := by decide +kernel
theorem dX7_markAndSlide_98 : decode cX7_markAndSlide 98 = .ok (.invokevirtual 59, 3) := by decide +kernel
theorem dX7_markAndSlide_101 : decode cX7_markAndSlide 101 = .ok (.if_icmp .ge 24, 3) := by decide +kernel
theorem dX7_markAndSlide_104 : decode cX7_markAndSlide 104 = .ok (.aload_n 0, 1) := by decide +kernel
theorem dX7_markAndSlide_105 : decode cX7_markAndSlide 105 = .ok (.aload_n 0, 1) := by decide +kernel
theorem dX7_markAndSlide_106 : decode cX7_markAndSlide 106 = .ok (.getfield 16, 3) := by decide +kernel
theorem dX7_markAndSlide_109 : decode cX7_markAndSlide 109 = .ok (.iload_n 1, 1) := by decide +kernel
theorem dX7_markAndSlide_110 : decode cX7_markAndSlide 110 = .ok (.invokevirtual 77, 3) := by decide +kernel
theorem dX7_markAndSlide_113 : decode cX7_markAndSlide 113 = .ok (.checkcast 50, 3) := by decide +kernel
theorem dX7_markAndSlide_116 : decode cX7_markAndSlide 116 = .ok (.invokevirtual 381, 3) := by decide +kernel
theorem dX7_markAndSlide_119 : decode cX7_markAndSlide 119 = .ok (.iinc 1 1, 3) := by decide +kernel
theorem dX7_markAndSlide_122 : decode cX7_markAndSlide 122 = .ok (.goto (-29), 3) := by decide +kernel
theorem dX7_markAndSlide_125 : decode cX7_markAndSlide 125 = .ok (.return_, 1) := by decide +kernel
theorem dX7_reachFrom_0 : decode cX7_reachFrom 0 = .ok (.aload_n 0, 1) := by decide +kernel
theorem dX7_reachFrom_1 : decode cX7_reachFrom 1 = .ok (.getfield 26, 3) := by decide +kernel
theorem dX7_reachFrom_4 : decode cX7_reachFrom 4 = .ok (.aload_n 1, 1) := by decide +kernel
theorem dX7_reachFrom_5 : decode cX7_reachFrom 5 = .ok (.getfield 119, 3) := by decide +kernel
theorem dX7_reachFrom_8 : decode cX7_reachFrom 8 = .ok (.aload_n 1, 1) := by decide +kernel
theorem dX7_reachFrom_9 : decode cX7_reachFrom 9 = .ok (.invokevirtual 384, 3) := by decide +kernel
theorem dX7_reachFrom_12 : decode cX7_reachFrom 12 = .ok (.invokevirtual 365, 3) := by decide +kernel
theorem dX7_reachFrom_15 : decode cX7_reachFrom 15 = .ok (.aload_n 0, 1) := by decide +kernel
theorem dX7_reachFrom_16 : decode cX7_reachFrom 16 = .ok (.getfield 26, 3) := by decide +kernel
theorem dX7_reachFrom_19 : decode cX7_reachFrom 19 = .ok (.aload_n 1, 1) := by decide +kernel
theorem dX7_reachFrom_20 : decode cX7_reachFrom 20 = .ok (.getfield 387, 3) := by decide +kernel
theorem dX7_reachFrom_23 : decode cX7_reachFrom 23 = .ok (.aload_n 1, 1) := by decide +kernel
theorem dX7_reachFrom_24 : decode cX7_reachFrom 24 = .ok (.getfield 97, 3) := by decide +kernel
theorem dX7_reachFrom_27 : decode cX7_reachFrom 27 = .ok (.bipush 16, 2) := by decide +kernel
theorem dX7_reachFrom_29 : decode cX7_reachFrom 29 = .ok (.imul, 1) := by decide +kernel
theorem dX7_reachFrom_30 : decode cX7_reachFrom 30 = .ok (.invokevirtual 365, 3) := by decide +kernel
theorem dX7_reachFrom_33 : decode cX7_reachFrom 33 = .ok (.aload_n 0, 1) := by decide +kernel
theorem dX7_reachFrom_34 : decode cX7_reachFrom 34 = .ok (.getfield 26, 3) := by decide +kernel
theorem dX7_reachFrom_37 : decode cX7_reachFrom 37 = .ok (.aload_n 1, 1) := by decide +kernel
theorem dX7_reachFrom_38 : decode cX7_reachFrom 38 = .ok (.getfield 100, 3) := by decide +kernel
theorem dX7_reachFrom_41 : decode cX7_reachFrom 41 = .ok (.getfield 390, 3) := by decide +kernel
theorem dX7_reachFrom_44 : decode cX7_reachFrom 44 = .ok (.aload_n 1, 1) := by decide +kernel
theorem dX7_reachFrom_45 : decode cX7_reachFrom 45 = .ok (.getfield 100, 3) := by decide +kernel
theorem dX7_reachFrom_48 : decode cX7_reachFrom 48 = .ok (.getfield 104, 3) := by decide +kernel
theorem dX7_reachFrom_51 : decode cX7_reachFrom 51 = .ok (.invokevirtual 393, 3) := by decide +kernel
theorem dX7_reachFrom_54 : decode cX7_reachFrom 54 = .ok (.aload_n 0, 1) := by decide +kernel
theorem dX7_reachFrom_55 : decode cX7_reachFrom 55 = .ok (.getfield 26, 3) := by decide +kernel
theorem dX7_reachFrom_58 : decode cX7_reachFrom 58 = .ok (.aload_n 1, 1) := by decide +kernel
theorem dX7_reachFrom_59 : decode cX7_reachFrom 59 = .ok (.getfield 100, 3) := by decide +kernel
theorem dX7_reachFrom_62 : decode cX7_reachFrom 62 = .ok (.getfield 338, 3) := by decide +kernel
theorem dX7_reachFrom_65 : decode cX7_reachFrom 65 = .ok (.aload_n 1, 1) := by decide +kernel
theorem dX7_reachFrom_66 : decode cX7_reachFrom 66 = .ok (.getfield 100, 3) := by decide +kernel
theorem dX7_reachFrom_69 : decode cX7_reachFrom 69 = .ok (.getfield 109, 3) := by decide +kernel
theorem dX7_reachFrom_72 : decode cX7_reachFrom 72 = .ok (.invokevirtual 393, 3) := by decide +kernel
theorem dX7_reachFrom_75 : decode cX7_reachFrom 75 = .ok (.aload_n 0, 1) := by decide +kernel
theorem dX7_reachFrom_76 : decode cX7_reachFrom 76 = .ok (.getfield 26, 3) := by decide +kernel
theorem dX7_reachFrom_79 : decode cX7_reachFrom 79 = .ok (.aload_n 1, 1) := by decide +kernel
theorem dX7_reachFrom_80 : decode cX7_reachFrom 80 = .ok (.getfield 100, 3) := by decide +kernel
theorem dX7_reachFrom_83 : decode cX7_reachFrom 83 = .ok (.getfield 314, 3) := by decide +kernel
theorem dX7_reachFrom_86 : decode cX7_reachFrom 86 = .ok (.aload_n 1, 1) := by decide +kernel
theorem dX7_reachFrom_87 : decode cX7_reachFrom 87 = .ok (.getfield 100, 3) := by decide +kernel
theorem dX7_reachFrom_90 : decode cX7_reachFrom 90 = .ok (.getfield 109, 3) := by decide +kernel
theorem dX7_reachFrom_93 : decode cX7_reachFrom 93 = .ok (.invokevirtual 365, 3) := by decide +kernel
theorem dX7_reachFrom_96 : decode cX7_reachFrom 96 = .ok (.return_, 1) := by decide +kernel
theorem dX7_followIn_0 : decode cX7_followIn 0 = .ok (.aload_n 1, 1) := by decide +kernel
theorem dX7_followIn_1 : decode cX7_followIn 1 = .ok (.aload_n 1, 1) := by decide +kernel
theorem dX7_followIn_2 : decode cX7_followIn 2 = .ok (.invokevirtual 384, 3) := by decide +kernel
theorem dX7_followIn_5 : decode cX7_followIn 5 = .ok (.invokevirtual 397, 3) := by decide +kernel
theorem dX7_followIn_8 : decode cX7_followIn 8 = .ok (.aload_n 0, 1) := by decide +kernel
theorem dX7_followIn_9 : decode cX7_followIn 9 = .ok (.getfield 26, 3) := by decide +kernel
theorem dX7_followIn_12 : decode cX7_followIn 12 = .ok (.aload_n 1, 1) := by decide +kernel
theorem dX7_followIn_13 : decode cX7_followIn 13 = .ok (.getfield 119, 3) := by decide +kernel
theorem dX7_followIn_16 : decode cX7_followIn 16 = .ok (.aload_n 1, 1) := by decide +kernel
theorem dX7_followIn_17 : decode cX7_followIn 17 = .ok (.invokevirtual 384, 3) := by decide +kernel
theorem dX7_followIn_20 : decode cX7_followIn 20 = .ok (.invokevirtual 378, 3) := by decide +kernel
theorem dX7_followIn_23 : decode cX7_followIn 23 = .ok (.aload_n 0, 1) := by decide +kernel
theorem dX7_followIn_24 : decode cX7_followIn 24 = .ok (.getfield 26, 3) := by decide +kernel
theorem dX7_followIn_27 : decode cX7_followIn 27 = .ok (.aload_n 1, 1) := by decide +kernel
theorem dX7_followIn_28 : decode cX7_followIn 28 = .ok (.getfield 387, 3) := by decide +kernel
theorem dX7_followIn_31 : decode cX7_followIn 31 = .ok (.aload_n 1, 1) := by decide +kernel
theorem dX7_followIn_32 : decode cX7_followIn 32 = .ok (.getfield 97, 3) := by decide +kernel
theorem dX7_followIn_35 : decode cX7_followIn 35 = .ok (.bipush 16, 2) := by decide +kernel
theorem dX7_followIn_37 : decode cX7_followIn 37 = .ok (.imul, 1) := by decide +kernel
theorem dX7_followIn_38 : decode cX7_followIn 38 = .ok (.invokevirtual 378, 3) := by decide +kernel
theorem dX7_followIn_41 : decode cX7_followIn 41 = .ok (.aload_n 0, 1) := by decide +kernel
theorem dX7_followIn_42 : decode cX7_followIn 42 = .ok (.getfield 26, 3) := by decide +kernel
theorem dX7_followIn_45 : decode cX7_followIn 45 = .ok (.aload_n 1, 1) := by decide +kernel
theorem dX7_followIn_46 : decode cX7_followIn 46 = .ok (.getfield 100, 3) := by decide +kernel
theorem dX7_followIn_49 : decode cX7_followIn 49 = .ok (.getfield 390, 3) := by decide +kernel
theorem dX7_followIn_52 : decode cX7_followIn 52 = .ok (.aload_n 1, 1) := by decide +kernel
theorem dX7_followIn_53 : decode cX7_followIn 53 = .ok (.getfield 100, 3) := by decide +kernel
theorem dX7_followIn_56 : decode cX7_followIn 56 = .ok (.getfield 104, 3) := by decide +kernel
theorem dX7_followIn_59 : decode cX7_followIn 59 = .ok (.invokevirtual 400, 3) := by decide +kernel
theorem dX7_followIn_62 : decode cX7_followIn 62 = .ok (.aload_n 0, 1) := by decide +kernel
theorem dX7_followIn_63 : decode cX7_followIn 63 = .ok (.getfield 26, 3) := by decide +kernel
theorem dX7_followIn_66 : decode cX7_followIn 66 = .ok (.aload_n 1, 1) := by decide +kernel
theorem dX7_followIn_67 : decode cX7_followIn 67 = .ok (.getfield 100, 3) := by decide +kernel
theorem dX7_followIn_70 : decode cX7_followIn 70 = .ok (.getfield 338, 3) := by decide +kernel
theorem dX7_followIn_73 : decode cX7_followIn 73 = .ok (.aload_n 1, 1) := by decide +kernel
theorem dX7_followIn_74 : decode cX7_followIn 74 = .ok (.getfield 100, 3) := by decide +kernel
theorem dX7_followIn_77 : decode cX7_followIn 77 = .ok (.getfield 109, 3) := by decide +kernel
theorem dX7_followIn_80 : decode cX7_followIn 80 = .ok (.invokevirtual 400, 3) := by decide +kernel
theorem dX7_followIn_83 : decode cX7_followIn 83 = .ok (.aload_n 0, 1) := by decide +kernel
theorem dX7_followIn_84 : decode cX7_followIn 84 = .ok (.getfield 26, 3) := by decide +kernel
theorem dX7_followIn_87 : decode cX7_followIn 87 = .ok (.aload_n 1, 1) := by decide +kernel
theorem dX7_followIn_88 : decode cX7_followIn 88 = .ok (.getfield 100, 3) := by decide +kernel
theorem dX7_followIn_91 : decode cX7_followIn 91 = .ok (.getfield 314, 3) := by decide +kernel
theorem dX7_followIn_94 : decode cX7_followIn 94 = .ok (.aload_n 1, 1) := by decide +kernel
theorem dX7_followIn_95 : decode cX7_followIn 95 = .ok (.getfield 100, 3) := by decide +kernel
theorem dX7_followIn_98 : decode cX7_followIn 98 = .ok (.getfield 109, 3) := by decide +kernel
theorem dX7_followIn_101 : decode cX7_followIn 101 = .ok (.invokevirtual 378, 3) := by decide +kernel
theorem dX7_followIn_104 : decode cX7_followIn 104 = .ok (.return_, 1) := by decide +kernel
theorem dX8_init_0 : decode cX8_init 0 = .ok (.aload_n 0, 1) := by decide +kernel
theorem dX8_init_1 : decode cX8_init 1 = .ok (.invokespecial 3, 3) := by decide +kernel
theorem dX8_init_4 : decode cX8_init 4 = .ok (.aload_n 0, 1) := by decide +kernel
theorem dX8_init_5 : decode cX8_init 5 = .ok (.iconst 1, 1) := by decide +kernel
theorem dX8_init_6 : decode cX8_init 6 = .ok (.putfield 9, 3) := by decide +kernel
theorem dX8_init_9 : decode cX8_init 9 = .ok (.aload_n 0, 1) := by decide +kernel
theorem dX8_init_10 : decode cX8_init 10 = .ok (.bipush 16, 2) := by decide +kernel
theorem dX8_init_12 : decode cX8_init 12 = .ok (.newarray .long, 2) := by decide +kernel
theorem dX8_init_14 : decode cX8_init 14 = .ok (.putfield 15, 3) := by decide +kernel
theorem dX8_init_17 : decode cX8_init 17 = .ok (.aload_n 0, 1) := by decide +kernel
theorem dX8_init_18 : decode cX8_init 18 = .ok (.sipush 384, 3) := by decide +kernel
theorem dX8_init_21 : decode cX8_init 21 = .ok (.newarray .long, 2) := by decide +kernel
theorem dX8_init_23 : decode cX8_init 23 = .ok (.putfield 19, 3) := by decide +kernel
theorem dX8_init_26 : decode cX8_init 26 = .ok (.aload_n 0, 1) := by decide +kernel
theorem dX8_init_27 : decode cX8_init 27 = .ok (.bipush 40, 2) := by decide +kernel
theorem dX8_init_29 : decode cX8_init 29 = .ok (.newarray .int, 2) := by decide +kernel
theorem dX8_init_31 : decode cX8_init 31 = .ok (.putfield 22, 3) := by decide +kernel
theorem dX8_init_34 : decode cX8_init 34 = .ok (.aload_n 0, 1) := by decide +kernel
theorem dX8_init_35 : decode cX8_init 35 = .ok (.bipush 24, 2) := by decide +kernel
theorem dX8_init_37 : decode cX8_init 37 = .ok (.newarray .int, 2) := by decide +kernel
theorem dX8_init_39 : decode cX8_init 39 = .ok (.putfield 26, 3) := by decide +kernel
theorem dX8_init_42 : decode cX8_init 42 = .ok (.aload_n 0, 1) := by decide +kernel
theorem dX8_init_43 : decode cX8_init 43 = .ok (.bipush 24, 2) := by decide +kernel
theorem dX8_init_45 : decode cX8_init 45 = .ok (.newarray .int, 2) := by decide +kernel
theorem dX8_init_47 : decode cX8_init 47 = .ok (.putfield 29, 3) := by decide +kernel
theorem dX8_init_50 : decode cX8_init 50 = .ok (.aload_n 0, 1) := by decide +kernel
theorem dX8_init_51 : decode cX8_init 51 = .ok (.bipush 24, 2) := by decide +kernel
theorem dX8_init_53 : decode cX8_init 53 = .ok (.newarray .int, 2) := by decide +kernel
theorem dX8_init_55 : decode cX8_init 55 = .ok (.putfield 32, 3) := by decide +kernel
theorem dX8_init_58 : decode cX8_init 58 = .ok (.aload_n 0, 1) := by decide +kernel
theorem dX8_init_59 : decode cX8_init 59 = .ok (.bipush 24, 2) := by decide +kernel
theorem dX8_init_61 : decode cX8_init 61 = .ok (.newarray .int, 2) := by decide +kernel
theorem dX8_init_63 : decode cX8_init 63 = .ok (.putfield 35, 3) := by decide +kernel
theorem dX8_init_66 : decode cX8_init 66 = .ok (.aload_n 0, 1) := by decide +kernel
theorem dX8_init_67 : decode cX8_init 67 = .ok (.bipush 40, 2) := by decide +kernel
theorem dX8_init_69 : decode cX8_init 69 = .ok (.newarray .long, 2) := by decide +kernel
theorem dX8_init_71 : decode cX8_init 71 = .ok (.putfield 38, 3) := by decide +kernel
theorem dX8_init_74 : decode cX8_init 74 = .ok (.aload_n 0, 1) := by decide +kernel
theorem dX8_init_75 : decode cX8_init 75 = .ok (.bipush 40, 2) := by decide +kernel
theorem dX8_init_77 : decode cX8_init 77 = .ok (.newarray .long, 2) := by decide +kernel
theorem dX8_init_79 : decode cX8_init 79 = .ok (.putfield 41, 3) := by decide +kernel
theorem dX8_init_82 : decode cX8_init 82 = .ok (.aload_n 0, 1) := by decide +kernel
theorem dX8_init_83 : decode cX8_init 83 = .ok (.bipush 40, 2) := by decide +kernel
theorem dX8_init_85 : decode cX8_init 85 = .ok (.newarray .long, 2) := by decide +kernel
theorem dX8_init_87 : decode cX8_init 87 = .ok (.putfield 44, 3) := by decide +kernel
theorem dX8_init_90 : decode cX8_init 90 = .ok (.return_, 1) := by decide +kernel
theorem dX8_atomic_0 : decode cX8_atomic 0 = .ok (.iconst 0, 1) := by decide +kernel
theorem dX8_atomic_1 : decode cX8_atomic 1 = .ok (.istore_n 1, 1) := by decide +kernel
theorem dX8_atomic_2 : decode cX8_atomic 2 = .ok (.iload_n 1, 1) := by decide +kernel
theorem dX8_atomic_3 : decode cX8_atomic 3 = .ok (.aload_n 0, 1) := by decide +kernel
theorem dX8_atomic_4 : decode cX8_atomic 4 = .ok (.getfield 47, 3) := by decide +kernel
theorem dX8_atomic_7 : decode cX8_atomic 7 = .ok (.if_icmp .ge 20, 3) := by decide +kernel
theorem dX8_atomic_10 : decode cX8_atomic 10 = .ok (.aload_n 0, 1) := by decide +kernel
theorem dX8_atomic_11 : decode cX8_atomic 11 = .ok (.getfield 26, 3) := by decide +kernel
theorem dX8_atomic_14 : decode cX8_atomic 14 = .ok (.iload_n 1, 1) := by decide +kernel
theorem dX8_atomic_15 : decode cX8_atomic 15 = .ok (.iaload, 1) := by decide +kernel
theorem dX8_atomic_16 : decode cX8_atomic 16 = .ok (.ifCond .ne 5, 3) := by decide +kernel
theorem dX8_atomic_19 : decode cX8_atomic 19 = .ok (.iload_n 1, 1) := by decide +kernel
theorem dX8_atomic_20 : decode cX8_atomic 20 = .ok (.ireturn, 1) := by decide +kernel
theorem dX8_atomic_21 : decode cX8_atomic 21 = .ok (.iinc 1 1, 3) := by decide +kernel
theorem dX8_atomic_24 : decode cX8_atomic 24 = .ok (.goto (-22), 3) := by decide +kernel
theorem dX8_atomic_27 : decode cX8_atomic 27 = .ok (.iconst (-1), 1) := by decide +kernel
theorem dX8_atomic_28 : decode cX8_atomic 28 = .ok (.ireturn, 1) := by decide +kernel
theorem dX8_nest_0 : decode cX8_nest 0 = .ok (.aload_n 0, 1) := by decide +kernel
theorem dX8_nest_1 : decode cX8_nest 1 = .ok (.getfield 26, 3) := by decide +kernel
theorem dX8_nest_4 : decode cX8_nest 4 = .ok (.aload_n 0, 1) := by decide +kernel
theorem dX8_nest_5 : decode cX8_nest 5 = .ok (.getfield 47, 3) := by decide +kernel
theorem dX8_nest_8 : decode cX8_nest 8 = .ok (.iload_n 1, 1) := by decide +kernel
theorem dX8_nest_9 : decode cX8_nest 9 = .ok (.iastore, 1) := by decide +kernel
theorem dX8_nest_10 : decode cX8_nest 10 = .ok (.aload_n 0, 1) := by decide +kernel
theorem dX8_nest_11 : decode cX8_nest 11 = .ok (.getfield 29, 3) := by decide +kernel
theorem dX8_nest_14 : decode cX8_nest 14 = .ok (.aload_n 0, 1) := by decide +kernel
theorem dX8_nest_15 : decode cX8_nest 15 = .ok (.getfield 47, 3) := by decide +kernel
theorem dX8_nest_18 : decode cX8_nest 18 = .ok (.iload_n 2, 1) := by decide +kernel
theorem dX8_nest_19 : decode cX8_nest 19 = .ok (.iastore, 1) := by decide +kernel
theorem dX8_nest_20 : decode cX8_nest 20 = .ok (.aload_n 0, 1) := by decide +kernel
theorem dX8_nest_21 : decode cX8_nest 21 = .ok (.getfield 32, 3) := by decide +kernel
theorem dX8_nest_24 : decode cX8_nest 24 = .ok (.aload_n 0, 1) := by decide +kernel
theorem dX8_nest_25 : decode cX8_nest 25 = .ok (.getfield 47, 3) := by decide +kernel
theorem dX8_nest_28 : decode cX8_nest 28 = .ok (.aload_n 0, 1) := by decide +kernel
theorem dX8_nest_29 : decode cX8_nest 29 = .ok (.getfield 50, 3) := by decide +kernel
theorem dX8_nest_32 : decode cX8_nest 32 = .ok (.iastore, 1) := by decide +kernel
theorem dX8_nest_33 : decode cX8_nest 33 = .ok (.aload_n 0, 1) := by decide +kernel
theorem dX8_nest_34 : decode cX8_nest 34 = .ok (.getfield 35, 3) := by decide +kernel
theorem dX8_nest_37 : decode cX8_nest 37 = .ok (.aload_n 0, 1) := by decide +kernel
theorem dX8_nest_38 : decode cX8_nest 38 = .ok (.getfield 47, 3) := by decide +kernel
theorem dX8_nest_41 : decode cX8_nest 41 = .ok (.aload_n 0, 1) := by decide +kernel
theorem dX8_nest_42 : decode cX8_nest 42 = .ok (.getfield 53, 3) := by decide +kernel
theorem dX8_nest_45 : decode cX8_nest 45 = .ok (.iastore, 1) := by decide +kernel
theorem dX8_nest_46 : decode cX8_nest 46 = .ok (.iconst 0, 1) := by decide +kernel
theorem dX8_nest_47 : decode cX8_nest 47 = .ok (.istore_n 3, 1) := by decide +kernel
theorem dX8_nest_48 : decode cX8_nest 48 = .ok (.iload_n 3, 1) := by decide +kernel
theorem dX8_nest_49 : decode cX8_nest 49 = .ok (.bipush 16, 2) := by decide +kernel
theorem dX8_nest_51 : decode cX8_nest 51 = .ok (.if_icmp .ge 29, 3) := by decide +kernel
theorem dX8_nest_54 : decode cX8_nest 54 = .ok (.aload_n 0, 1) := by decide +kernel
theorem dX8_nest_55 : decode cX8_nest 55 = .ok (.getfield 19, 3) := by decide +kernel
theorem dX8_nest_58 : decode cX8_nest 58 = .ok (.bipush 16, 2) := by decide +kernel
theorem dX8_nest_60 : decode cX8_nest 60 = .ok (.aload_n 0, 1) := by decide +kernel
theorem dX8_nest_61 : decode cX8_nest 61 = .ok (.getfield 47, 3) := by decide +kernel
theorem dX8_nest_64 : decode cX8_nest 64 = .ok (.imul, 1) := by decide +kernel
theorem dX8_nest_65 : decode cX8_nest 65 = .ok (.iload_n 3, 1) := by decide +kernel
theorem dX8_nest_66 : decode cX8_nest 66 = .ok (.iadd, 1) := by decide +kernel
theorem dX8_nest_67 : decode cX8_nest 67 = .ok (.aload_n 0, 1) := by decide +kernel
theorem dX8_nest_68 : decode cX8_nest 68 = .ok (.getfield 15, 3) := by decide +kernel
theorem dX8_nest_71 : decode cX8_nest 71 = .ok (.iload_n 3, 1) := by decide +kernel
theorem dX8_nest_72 : decode cX8_nest 72 = .ok (.laload, 1) := by decide +kernel
theorem dX8_nest_73 : decode cX8_nest 73 = .ok (.lastore, 1) := by decide +kernel
theorem dX8_nest_74 : decode cX8_nest 74 = .ok (.iinc 3 1, 3) := by decide +kernel
theorem dX8_nest_77 : decode cX8_nest 77 = .ok (.goto (-29), 3) := by decide +kernel
theorem dX8_nest_80 : decode cX8_nest 80 = .ok (.aload_n 0, 1) := by decide +kernel
theorem dX8_nest_81 : decode cX8_nest 81 = .ok (.dup, 1) := by decide +kernel
theorem dX8_nest_82 : decode cX8_nest 82 = .ok (.getfield 47, 3) := by decide +kernel
theorem dX8_nest_85 : decode cX8_nest 85 = .ok (.iconst 1, 1) := by decide +kernel
theorem dX8_nest_86 : decode cX8_nest 86 = .ok (.iadd, 1) := by decide +kernel
theorem dX8_nest_87 : decode cX8_nest 87 = .ok (.putfield 47, 3) := by decide +kernel
theorem dX8_nest_90 : decode cX8_nest 90 = .ok (.return_, 1) := by decide +kernel
theorem dX8_restore_0 : decode cX8_restore 0 = .ok (.aload_n 0, 1) := by decide +kernel
theorem dX8_restore_1 : decode cX8_restore 1 = .ok (.aload_n 0, 1) := by decide +kernel
theorem dX8_restore_2 : decode cX8_restore 2 = .ok (.getfield 32, 3) := by decide +kernel
theorem dX8_restore_5 : decode cX8_restore 5 = .ok (.iload_n 1, 1) := by decide +kernel
theorem dX8_restore_6 : decode cX8_restore 6 = .ok (.iaload, 1) := by decide +kernel
theorem dX8_restore_7 : decode cX8_restore 7 = .ok (.putfield 50, 3) := by decide +kernel
theorem dX8_restore_10 : decode cX8_restore 10 = .ok (.iconst 0, 1) := by decide +kernel
theorem dX8_restore_11 : decode cX8_restore 11 = .ok (.istore_n 2, 1) := by decide +kernel
theorem dX8_restore_12 : decode cX8_restore 12 = .ok (.iload_n 2, 1) := by decide +kernel
theorem dX8_restore_13 : decode cX8_restore 13 = .ok (.bipush 16, 2) := by decide +kernel
theorem dX8_restore_15 : decode cX8_restore 15 = .ok (.if_icmp .ge 26, 3) := by decide +kernel
theorem dX8_restore_18 : decode cX8_restore 18 = .ok (.aload_n 0, 1) := by decide +kernel
theorem dX8_restore_19 : decode cX8_restore 19 = .ok (.getfield 15, 3) := by decide +kernel
theorem dX8_restore_22 : decode cX8_restore 22 = .ok (.iload_n 2, 1) := by decide +kernel
theorem dX8_restore_23 : decode cX8_restore 23 = .ok (.aload_n 0, 1) := by decide +kernel
theorem dX8_restore_24 : decode cX8_restore 24 = .ok (.getfield 19, 3) := by decide +kernel
theorem dX8_restore_27 : decode cX8_restore 27 = .ok (.bipush 16, 2) := by decide +kernel
theorem dX8_restore_29 : decode cX8_restore 29 = .ok (.iload_n 1, 1) := by decide +kernel
theorem dX8_restore_30 : decode cX8_restore 30 = .ok (.imul, 1) := by decide +kernel
theorem dX8_restore_31 : decode cX8_restore 31 = .ok (.iload_n 2, 1) := by decide +kernel
theorem dX8_restore_32 : decode cX8_restore 32 = .ok (.iadd, 1) := by decide +kernel
theorem dX8_restore_33 : decode cX8_restore 33 = .ok (.laload, 1) := by decide +kernel
theorem dX8_restore_34 : decode cX8_restore 34 = .ok (.lastore, 1) := by decide +kernel
theorem dX8_restore_35 : decode cX8_restore 35 = .ok (.iinc 2 1, 3) := by decide +kernel
theorem dX8_restore_38 : decode cX8_restore 38 = .ok (.goto (-26), 3) := by decide +kernel
theorem dX8_restore_41 : decode cX8_restore 41 = .ok (.return_, 1) := by decide +kernel
theorem dX8_rollBack_0 : decode cX8_rollBack 0 = .ok (.aload_n 0, 1) := by decide +kernel
theorem dX8_rollBack_1 : decode cX8_rollBack 1 = .ok (.iload_n 1, 1) := by decide +kernel
theorem dX8_rollBack_2 : decode cX8_rollBack 2 = .ok (.invokevirtual 56, 3) := by decide +kernel
theorem dX8_rollBack_5 : decode cX8_rollBack 5 = .ok (.aload_n 0, 1) := by decide +kernel
theorem dX8_rollBack_6 : decode cX8_rollBack 6 = .ok (.aload_n 0, 1) := by decide +kernel
theorem dX8_rollBack_7 : decode cX8_rollBack 7 = .ok (.getfield 35, 3) := by decide +kernel
theorem dX8_rollBack_10 : decode cX8_rollBack 10 = .ok (.iload_n 1, 1) := by decide +kernel
theorem dX8_rollBack_11 : decode cX8_rollBack 11 = .ok (.iaload, 1) := by decide +kernel
theorem dX8_rollBack_12 : decode cX8_rollBack 12 = .ok (.putfield 53, 3) := by decide +kernel
theorem dX8_rollBack_15 : decode cX8_rollBack 15 = .ok (.aload_n 0, 1) := by decide +kernel
theorem dX8_rollBack_16 : decode cX8_rollBack 16 = .ok (.iload_n 1, 1) := by decide +kernel
theorem dX8_rollBack_17 : decode cX8_rollBack 17 = .ok (.putfield 47, 3) := by decide +kernel
theorem dX8_rollBack_20 : decode cX8_rollBack 20 = .ok (.aload_n 0, 1) := by decide +kernel
theorem dX8_rollBack_21 : decode cX8_rollBack 21 = .ok (.aload_n 0, 1) := by decide +kernel
theorem dX8_rollBack_22 : decode cX8_rollBack 22 = .ok (.getfield 29, 3) := by decide +kernel
theorem dX8_rollBack_25 : decode cX8_rollBack 25 = .ok (.iload_n 1, 1) := by decide +kernel
theorem dX8_rollBack_26 : decode cX8_rollBack 26 = .ok (.iaload, 1) := by decide +kernel
theorem dX8_rollBack_27 : decode cX8_rollBack 27 = .ok (.putfield 60, 3) := by decide +kernel
theorem dX8_rollBack_30 : decode cX8_rollBack 30 = .ok (.return_, 1) := by decide +kernel
theorem dX8_again_0 : decode cX8_again 0 = .ok (.aload_n 0, 1) := by decide +kernel
theorem dX8_again_1 : decode cX8_again 1 = .ok (.invokevirtual 63, 3) := by decide +kernel
theorem dX8_again_4 : decode cX8_again 4 = .ok (.istore_n 2, 1) := by decide +kernel
theorem dX8_again_5 : decode cX8_again 5 = .ok (.aload_n 0, 1) := by decide +kernel
theorem dX8_again_6 : decode cX8_again 6 = .ok (.iload_n 2, 1) := by decide +kernel
theorem dX8_again_7 : decode cX8_again 7 = .ok (.invokevirtual 56, 3) := by decide +kernel
theorem dX8_again_10 : decode cX8_again 10 = .ok (.aload_n 0, 1) := by decide +kernel
theorem dX8_again_11 : decode cX8_again 11 = .ok (.iload_n 2, 1) := by decide +kernel
theorem dX8_again_12 : decode cX8_again 12 = .ok (.iconst 1, 1) := by decide +kernel
theorem dX8_again_13 : decode cX8_again 13 = .ok (.iadd, 1) := by decide +kernel
theorem dX8_again_14 : decode cX8_again 14 = .ok (.putfield 47, 3) := by decide +kernel
theorem dX8_again_17 : decode cX8_again 17 = .ok (.aload_n 0, 1) := by decide +kernel
theorem dX8_again_18 : decode cX8_again 18 = .ok (.iconst 0, 1) := by decide +kernel
theorem dX8_again_19 : decode cX8_again 19 = .ok (.putfield 67, 3) := by decide +kernel
theorem dX8_again_22 : decode cX8_again 22 = .ok (.aload_n 0, 1) := by decide +kernel
theorem dX8_again_23 : decode cX8_again 23 = .ok (.iconst 0, 1) := by decide +kernel
theorem dX8_again_24 : decode cX8_again 24 = .ok (.putfield 53, 3) := by decide +kernel
theorem dX8_again_27 : decode cX8_again 27 = .ok (.aload_n 0, 1) := by decide +kernel
theorem dX8_again_28 : decode cX8_again 28 = .ok (.iload_n 1, 1) := by decide +kernel
theorem dX8_again_29 : decode cX8_again 29 = .ok (.putfield 70, 3) := by decide +kernel
theorem dX8_again_32 : decode cX8_again 32 = .ok (.aload_n 0, 1) := by decide +kernel
theorem dX8_again_33 : decode cX8_again 33 = .ok (.aload_n 0, 1) := by decide +kernel
theorem dX8_again_34 : decode cX8_again 34 = .ok (.getfield 29, 3) := by decide +kernel
theorem dX8_again_37 : decode cX8_again 37 = .ok (.iload_n 2, 1) := by decide +kernel
theorem dX8_again_38 : decode cX8_again 38 = .ok (.iaload, 1) := by decide +kernel
theorem dX8_again_39 : decode cX8_again 39 = .ok (.putfield 60, 3) := by decide +kernel
theorem dX8_again_42 : decode cX8_again 42 = .ok (.aload_n 0, 1) := by decide +kernel
theorem dX8_again_43 : decode cX8_again 43 = .ok (.iconst 1, 1) := by decide +kernel
theorem dX8_again_44 : decode cX8_again 44 = .ok (.putfield 9, 3) := by decide +kernel
theorem dX8_again_47 : decode cX8_again 47 = .ok (.return_, 1) := by decide +kernel
theorem dX8_end_0 : decode cX8_end 0 = .ok (.aload_n 0, 1) := by decide +kernel
theorem dX8_end_1 : decode cX8_end 1 = .ok (.iload_n 1, 1) := by decide +kernel
theorem dX8_end_2 : decode cX8_end 2 = .ok (.putfield 9, 3) := by decide +kernel
theorem dX8_end_5 : decode cX8_end 5 = .ok (.aload_n 0, 1) := by decide +kernel
theorem dX8_end_6 : decode cX8_end 6 = .ok (.iload_n 2, 1) := by decide +kernel
theorem dX8_end_7 : decode cX8_end 7 = .ok (.putfield 73, 3) := by decide +kernel
theorem dX8_end_10 : decode cX8_end 10 = .ok (.aload_n 0, 1) := by decide +kernel
theorem dX8_end_11 : decode cX8_end 11 = .ok (.iconst 0, 1) := by decide +kernel
theorem dX8_end_12 : decode cX8_end 12 = .ok (.putfield 47, 3) := by decide +kernel
theorem dX8_end_15 : decode cX8_end 15 = .ok (.aload_n 0, 1) := by decide +kernel
theorem dX8_end_16 : decode cX8_end 16 = .ok (.iconst 0, 1) := by decide +kernel
theorem dX8_end_17 : decode cX8_end 17 = .ok (.putfield 67, 3) := by decide +kernel
theorem dX8_end_20 : decode cX8_end 20 = .ok (.aload_n 0, 1) := by decide +kernel
theorem dX8_end_21 : decode cX8_end 21 = .ok (.iconst 0, 1) := by decide +kernel
theorem dX8_end_22 : decode cX8_end 22 = .ok (.putfield 53, 3) := by decide +kernel
theorem dX8_end_25 : decode cX8_end 25 = .ok (.return_, 1) := by decide +kernel
theorem dX8_hasRead_0 : decode cX8_hasRead 0 = .ok (.iconst 0, 1) := by decide +kernel
theorem dX8_hasRead_1 : decode cX8_hasRead 1 = .ok (.istore_n 3, 1) := by decide +kernel
theorem dX8_hasRead_2 : decode cX8_hasRead 2 = .ok (.iload_n 3, 1) := by decide +kernel
theorem dX8_hasRead_3 : decode cX8_hasRead 3 = .ok (.aload_n 0, 1) := by decide +kernel
theorem dX8_hasRead_4 : decode cX8_hasRead 4 = .ok (.getfield 67, 3) := by decide +kernel
theorem dX8_hasRead_7 : decode cX8_hasRead 7 = .ok (.if_icmp .ge 22, 3) := by decide +kernel
theorem dX8_hasRead_10 : decode cX8_hasRead 10 = .ok (.aload_n 0, 1) := by decide +kernel
theorem dX8_hasRead_11 : decode cX8_hasRead 11 = .ok (.getfield 38, 3) := by decide +kernel
theorem dX8_hasRead_14 : decode cX8_hasRead 14 = .ok (.iload_n 3, 1) := by decide +kernel
theorem dX8_hasRead_15 : decode cX8_hasRead 15 = .ok (.laload, 1) := by decide +kernel
theorem dX8_hasRead_16 : decode cX8_hasRead 16 = .ok (.lload_n 1, 1) := by decide +kernel
theorem dX8_hasRead_17 : decode cX8_hasRead 17 = .ok (.lcmp, 1) := by decide +kernel
theorem dX8_hasRead_18 : decode cX8_hasRead 18 = .ok (.ifCond .ne 5, 3) := by decide +kernel
theorem dX8_hasRead_21 : decode cX8_hasRead 21 = .ok (.iconst 1, 1) := by decide +kernel
theorem dX8_hasRead_22 : decode cX8_hasRead 22 = .ok (.ireturn, 1) := by decide +kernel
theorem dX8_hasRead_23 : decode cX8_hasRead 23 = .ok (.iinc 3 1, 3) := by decide +kernel
theorem dX8_hasRead_26 : decode cX8_hasRead 26 = .ok (.goto (-24), 3) := by decide +kernel
theorem dX8_hasRead_29 : decode cX8_hasRead 29 = .ok (.iconst 0, 1) := by decide +kernel
theorem dX8_hasRead_30 : decode cX8_hasRead 30 = .ok (.ireturn, 1) := by decide +kernel
theorem dX9_init_0 : decode cX9_init 0 = .ok (.aload_n 0, 1) := by decide +kernel
theorem dX9_init_1 : decode cX9_init 1 = .ok (.invokespecial 1, 3) := by decide +kernel
theorem dX9_init_4 : decode cX9_init 4 = .ok (.aload_n 0, 1) := by decide +kernel
theorem dX9_init_5 : decode cX9_init 5 = .ok (.iconst 1, 1) := by decide +kernel
theorem dX9_init_6 : decode cX9_init 6 = .ok (.putfield 7, 3) := by decide +kernel
theorem dX9_init_9 : decode cX9_init 9 = .ok (.aload_n 0, 1) := by decide +kernel
theorem dX9_init_10 : decode cX9_init 10 = .ok (.sipush 1000, 3) := by decide +kernel
theorem dX9_init_13 : decode cX9_init 13 = .ok (.newarray .int, 2) := by decide +kernel
theorem dX9_init_15 : decode cX9_init 15 = .ok (.putfield 13, 3) := by decide +kernel
theorem dX9_init_18 : decode cX9_init 18 = .ok (.aload_n 0, 1) := by decide +kernel
theorem dX9_init_19 : decode cX9_init 19 = .ok (.sipush 1000, 3) := by decide +kernel
theorem dX9_init_22 : decode cX9_init 22 = .ok (.newarray .int, 2) := by decide +kernel
theorem dX9_init_24 : decode cX9_init 24 = .ok (.putfield 17, 3) := by decide +kernel
theorem dX9_init_27 : decode cX9_init 27 = .ok (.aload_n 0, 1) := by decide +kernel
theorem dX9_init_28 : decode cX9_init 28 = .ok (.sipush 1000, 3) := by decide +kernel
theorem dX9_init_31 : decode cX9_init 31 = .ok (.newarray .int, 2) := by decide +kernel
theorem dX9_init_33 : decode cX9_init 33 = .ok (.putfield 20, 3) := by decide +kernel
theorem dX9_init_36 : decode cX9_init 36 = .ok (.aload_n 0, 1) := by decide +kernel
theorem dX9_init_37 : decode cX9_init 37 = .ok (.sipush 1000, 3) := by decide +kernel
theorem dX9_init_40 : decode cX9_init 40 = .ok (.newarray .int, 2) := by decide +kernel
theorem dX9_init_42 : decode cX9_init 42 = .ok (.putfield 23, 3) := by decide +kernel
theorem dX9_init_45 : decode cX9_init 45 = .ok (.aload_n 0, 1) := by decide +kernel
theorem dX9_init_46 : decode cX9_init 46 = .ok (.bipush 16, 2) := by decide +kernel
theorem dX9_init_48 : decode cX9_init 48 = .ok (.anewarray 26, 3) := by decide +kernel
theorem dX9_init_51 : decode cX9_init 51 = .ok (.putfield 28, 3) := by decide +kernel
theorem dX9_init_54 : decode cX9_init 54 = .ok (.aload_n 0, 1) := by decide +kernel
theorem dX9_init_55 : decode cX9_init 55 = .ok (.bipush 8, 2) := by decide +kernel
theorem dX9_init_57 : decode cX9_init 57 = .ok (.newarray .long, 2) := by decide +kernel
theorem dX9_init_59 : decode cX9_init 59 = .ok (.putfield 32, 3) := by decide +kernel
theorem dX9_init_62 : decode cX9_init 62 = .ok (.aload_n 0, 1) := by decide +kernel
theorem dX9_init_63 : decode cX9_init 63 = .ok (.sipush 200, 3) := by decide +kernel
theorem dX9_init_66 : decode cX9_init 66 = .ok (.newarray .long, 2) := by decide +kernel
theorem dX9_init_68 : decode cX9_init 68 = .ok (.putfield 36, 3) := by decide +kernel
theorem dX9_init_71 : decode cX9_init 71 = .ok (.aload_n 0, 1) := by decide +kernel
theorem dX9_init_72 : decode cX9_init 72 = .ok (.sipush 200, 3) := by decide +kernel
theorem dX9_init_75 : decode cX9_init 75 = .ok (.newarray .long, 2) := by decide +kernel
theorem dX9_init_77 : decode cX9_init 77 = .ok (.putfield 39, 3) := by decide +kernel
theorem dX9_init_80 : decode cX9_init 80 = .ok (.aload_n 0, 1) := by decide +kernel
theorem dX9_init_81 : decode cX9_init 81 = .ok (.sipush 200, 3) := by decide +kernel
theorem dX9_init_84 : decode cX9_init 84 = .ok (.newarray .boolean, 2) := by decide +kernel
theorem dX9_init_86 : decode cX9_init 86 = .ok (.putfield 42, 3) := by decide +kernel
theorem dX9_init_89 : decode cX9_init 89 = .ok (.aload_n 0, 1) := by decide +kernel
theorem dX9_init_90 : decode cX9_init 90 = .ok (.sipush 200, 3) := by decide +kernel
theorem dX9_init_93 : decode cX9_init 93 = .ok (.newarray .boolean, 2) := by decide +kernel
theorem dX9_init_95 : decode cX9_init 95 = .ok (.putfield 46, 3) := by decide +kernel
theorem dX9_init_98 : decode cX9_init 98 = .ok (.aload_n 0, 1) := by decide +kernel
theorem dX9_init_99 : decode cX9_init 99 = .ok (.sipush 200, 3) := by decide +kernel
theorem dX9_init_102 : decode cX9_init 102 = .ok (.newarray .int, 2) := by decide +kernel
theorem dX9_init_104 : decode cX9_init 104 = .ok (.putfield 49, 3) := by decide +kernel
theorem dX9_init_107 : decode cX9_init 107 = .ok (.aload_n 0, 1) := by decide +kernel
theorem dX9_init_108 : decode cX9_init 108 = .ok (.sipush 200, 3) := by decide +kernel
theorem dX9_init_111 : decode cX9_init 111 = .ok (.newarray .int, 2) := by decide +kernel
theorem dX9_init_113 : decode cX9_init 113 = .ok (.putfield 52, 3) := by decide +kernel
theorem dX9_init_116 : decode cX9_init 116 = .ok (.aload_n 0, 1) := by decide +kernel
theorem dX9_init_117 : decode cX9_init 117 = .ok (.sipush 200, 3) := by decide +kernel
theorem dX9_init_120 : decode cX9_init 120 = .ok (.newarray .int, 2) := by decide +kernel
theorem dX9_init_122 : decode cX9_init 122 = .ok (.putfield 55, 3) := by decide +kernel
theorem dX9_init_125 : decode cX9_init 125 = .ok (.aload_n 0, 1) := by decide +kernel
theorem dX9_init_126 : decode cX9_init 126 = .ok (.getfield 28, 3) := by decide +kernel
theorem dX9_init_129 : decode cX9_init 129 = .ok (.iconst 0, 1) := by decide +kernel
theorem dX9_init_130 : decode cX9_init 130 = .ok (.new 26, 3) := by decide +kernel
theorem dX9_init_133 : decode cX9_init 133 = .ok (.dup, 1) := by decide +kernel
theorem dX9_init_134 : decode cX9_init 134 = .ok (.invokespecial 58, 3) := by decide +kernel
theorem dX9_init_137 : decode cX9_init 137 = .ok (.aastore, 1) := by decide +kernel
theorem dX9_init_138 : decode cX9_init 138 = .ok (.return_, 1) := by decide +kernel
theorem dX9_thrown_0 : decode cX9_thrown 0 = .ok (.aload_n 0, 1) := by decide +kernel
theorem dX9_thrown_1 : decode cX9_thrown 1 = .ok (.getfield 59, 3) := by decide +kernel
theorem dX9_thrown_4 : decode cX9_thrown 4 = .ok (.ireturn, 1) := by decide +kernel
theorem dX9_fail_0 : decode cX9_fail 0 = .ok (.aload_n 0, 1) := by decide +kernel
theorem dX9_fail_1 : decode cX9_fail 1 = .ok (.iload_n 1, 1) := by decide +kernel
theorem dX9_fail_2 : decode cX9_fail 2 = .ok (.putfield 59, 3) := by decide +kernel
theorem dX9_fail_5 : decode cX9_fail 5 = .ok (.iconst 0, 1) := by decide +kernel
theorem dX9_fail_6 : decode cX9_fail 6 = .ok (.ireturn, 1) := by decide +kernel
theorem dX9_isInt_0 : decode cX9_isInt 0 = .ok (.lload_n 0, 1) := by decide +kernel
theorem dX9_isInt_1 : decode cX9_isInt 1 = .ok (.ldc2_w 62, 3) := by decide +kernel
theorem dX9_isInt_4 : decode cX9_isInt 4 = .ok (.lcmp, 1) := by decide +kernel
theorem dX9_isInt_5 : decode cX9_isInt 5 = .ok (.ifCond .ge 7, 3) := by decide +kernel
theorem dX9_isInt_8 : decode cX9_isInt 8 = .ok (.iconst 1, 1) := by decide +kernel
theorem dX9_isInt_9 : decode cX9_isInt 9 = .ok (.goto 4, 3) := by decide +kernel
theorem dX9_isInt_12 : decode cX9_isInt 12 = .ok (.iconst 0, 1) := by decide +kernel
theorem dX9_isInt_13 : decode cX9_isInt 13 = .ok (.ireturn, 1) := by decide +kernel
theorem dX9_isPair_0 : decode cX9_isPair 0 = .ok (.lload_n 0, 1) := by decide +kernel
theorem dX9_isPair_1 : decode cX9_isPair 1 = .ok (.ldc2_w 62, 3) := by decide +kernel
theorem dX9_isPair_4 : decode cX9_isPair 4 = .ok (.lcmp, 1) := by decide +kernel
theorem dX9_isPair_5 : decode cX9_isPair 5 = .ok (.ifCond .lt 15, 3) := by decide +kernel
theorem dX9_isPair_8 : decode cX9_isPair 8 = .ok (.lload_n 0, 1) := by decide +kernel
theorem dX9_isPair_9 : decode cX9_isPair 9 = .ok (.ldc2_w 64, 3) := by decide +kernel
theorem dX9_isPair_12 : decode cX9_isPair 12 = .ok (.lcmp, 1) := by decide +kernel
theorem dX9_isPair_13 : decode cX9_isPair 13 = .ok (.ifCond .ge 7, 3) := by decide +kernel
theorem dX9_isPair_16 : decode cX9_isPair 16 = .ok (.iconst 1, 1) := by decide +kernel
theorem dX9_isPair_17 : decode cX9_isPair 17 = .ok (.goto 4, 3) := by decide +kernel
theorem dX9_isPair_20 : decode cX9_isPair 20 = .ok (.iconst 0, 1) := by decide +kernel
theorem dX9_isPair_21 : decode cX9_isPair 21 = .ok (.ireturn, 1) := by decide +kernel
theorem dX9_isVar_0 : decode cX9_isVar 0 = .ok (.lload_n 0, 1) := by decide +kernel
theorem dX9_isVar_1 : decode cX9_isVar 1 = .ok (.ldc2_w 64, 3) := by decide +kernel
theorem dX9_isVar_4 : decode cX9_isVar 4 = .ok (.lcmp, 1) := by decide +kernel
theorem dX9_isVar_5 : decode cX9_isVar 5 = .ok (.ifCond .lt 7, 3) := by decide +kernel
theorem dX9_isVar_8 : decode cX9_isVar 8 = .ok (.iconst 1, 1) := by decide +kernel
theorem dX9_isVar_9 : decode cX9_isVar 9 = .ok (.goto 4, 3) := by decide +kernel
theorem dX9_isVar_12 : decode cX9_isVar 12 = .ok (.iconst 0, 1) := by decide +kernel
theorem dX9_isVar_13 : decode cX9_isVar 13 = .ok (.ireturn, 1) := by decide +kernel
theorem dX9_place_0 : decode cX9_place 0 = .ok (.lload_n 0, 1) := by decide +kernel
theorem dX9_place_1 : decode cX9_place 1 = .ok (.l2i, 1) := by decide +kernel
theorem dX9_place_2 : decode cX9_place 2 = .ok (.ireturn, 1) := by decide +kernel
theorem dX9_noRegister_0 : decode cX9_noRegister 0 = .ok (.iload_n 0, 1) := by decide +kernel
theorem dX9_noRegister_1 : decode cX9_noRegister 1 = .ok (.ifCond .lt 9, 3) := by decide +kernel
theorem dX9_noRegister_4 : decode cX9_noRegister 4 = .ok (.iload_n 0, 1) := by decide +kernel
theorem dX9_noRegister_5 : decode cX9_noRegister 5 = .ok (.bipush 15, 2) := by decide +kernel
theorem dX9_noRegister_7 : decode cX9_noRegister 7 = .ok (.if_icmp .le 7, 3) := by decide +kernel
theorem dX9_noRegister_10 : decode cX9_noRegister 10 = .ok (.iconst 1, 1) := by decide +kernel
theorem dX9_noRegister_11 : decode cX9_noRegister 11 = .ok (.goto 4, 3) := by decide +kernel
theorem dX9_noRegister_14 : decode cX9_noRegister 14 = .ok (.iconst 0, 1) := by decide +kernel
theorem dX9_noRegister_15 : decode cX9_noRegister 15 = .ok (.ireturn, 1) := by decide +kernel
theorem dX9_noGlobal_0 : decode cX9_noGlobal 0 = .ok (.iload_n 0, 1) := by decide +kernel
theorem dX9_noGlobal_1 : decode cX9_noGlobal 1 = .ok (.ifCond .lt 9, 3) := by decide +kernel
theorem dX9_noGlobal_4 : decode cX9_noGlobal 4 = .ok (.iload_n 0, 1) := by decide +kernel
theorem dX9_noGlobal_5 : decode cX9_noGlobal 5 = .ok (.bipush 7, 2) := by decide +kernel
theorem dX9_noGlobal_7 : decode cX9_noGlobal 7 = .ok (.if_icmp .le 7, 3) := by decide +kernel
theorem dX9_noGlobal_10 : decode cX9_noGlobal 10 = .ok (.iconst 1, 1) := by decide +kernel
theorem dX9_noGlobal_11 : decode cX9_noGlobal 11 = .ok (.goto 4, 3) := by decide +kernel
theorem dX9_noGlobal_14 : decode cX9_noGlobal 14 = .ok (.iconst 0, 1) := by decide +kernel
theorem dX9_noGlobal_15 : decode cX9_noGlobal 15 = .ok (.ireturn, 1) := by decide +kernel
theorem dX9_step_0 : decode cX9_step 0 = .ok (.aload_n 0, 1) := by decide +kernel
theorem dX9_step_1 : decode cX9_step 1 = .ok (.dup, 1) := by decide +kernel
theorem dX9_step_2 : decode cX9_step 2 = .ok (.getfield 66, 3) := by decide +kernel
theorem dX9_step_5 : decode cX9_step 5 = .ok (.iconst 1, 1) := by decide +kernel
theorem dX9_step_6 : decode cX9_step 6 = .ok (.iadd, 1) := by decide +kernel
theorem dX9_step_7 : decode cX9_step 7 = .ok (.putfield 66, 3) := by decide +kernel
theorem dX9_step_10 : decode cX9_step 10 = .ok (.aload_n 1, 1) := by decide +kernel
theorem dX9_step_11 : decode cX9_step 11 = .ok (.getfield 69, 3) := by decide +kernel
theorem dX9_step_14 : decode cX9_step 14 = .ok (.istore_n 2, 1) := by decide +kernel
theorem dX9_step_15 : decode cX9_step 15 = .ok (.aload_n 1, 1) := by decide +kernel
theorem dX9_step_16 : decode cX9_step 16 = .ok (.dup, 1) := by decide +kernel
theorem dX9_step_17 : decode cX9_step 17 = .ok (.getfield 69, 3) := by decide +kernel
theorem dX9_step_20 : decode cX9_step 20 = .ok (.iconst 1, 1) := by decide +kernel
theorem dX9_step_21 : decode cX9_step 21 = .ok (.iadd, 1) := by decide +kernel
theorem dX9_step_22 : decode cX9_step 22 = .ok (.putfield 69, 3) := by decide +kernel
theorem dX9_step_25 : decode cX9_step 25 = .ok (.iload_n 2, 1) := by decide +kernel
theorem dX9_step_26 : decode cX9_step 26 = .ok (.ifCond .lt 11, 3) := by decide +kernel
theorem dX9_step_29 : decode cX9_step 29 = .ok (.iload_n 2, 1) := by decide +kernel
theorem dX9_step_30 : decode cX9_step 30 = .ok (.aload_n 0, 1) := by decide +kernel
theorem dX9_step_31 : decode cX9_step 31 = .ok (.getfield 72, 3) := by decide +kernel
theorem dX9_step_34 : decode cX9_step 34 = .ok (.if_icmp .lt 7, 3) := by decide +kernel
theorem dX9_step_37 : decode cX9_step 37 = .ok (.iconst (-1), 1) := by decide +kernel
theorem dX9_step_38 : decode cX9_step 38 = .ok (.goto 32, 3) := by decide +kernel
theorem dX9_step_41 : decode cX9_step 41 = .ok (.aload_n 0, 1) := by decide +kernel
theorem dX9_step_42 : decode cX9_step 42 = .ok (.aload_n 1, 1) := by decide +kernel
theorem dX9_step_43 : decode cX9_step 43 = .ok (.aload_n 0, 1) := by decide +kernel
theorem dX9_step_44 : decode cX9_step 44 = .ok (.getfield 13, 3) := by decide +kernel
theorem dX9_step_47 : decode cX9_step 47 = .ok (.iload_n 2, 1) := by decide +kernel
theorem dX9_step_48 : decode cX9_step 48 = .ok (.iaload, 1) := by decide +kernel
theorem dX9_step_49 : decode cX9_step 49 = .ok (.aload_n 0, 1) := by decide +kernel
theorem dX9_step_50 : decode cX9_step 50 = .ok (.getfield 17, 3) := by decide +kernel
theorem dX9_step_53 : decode cX9_step 53 = .ok (.iload_n 2, 1) := by decide +kernel
theorem dX9_step_54 : decode cX9_step 54 = .ok (.iaload, 1) := by decide +kernel
theorem dX9_step_55 : decode cX9_step 55 = .ok (.aload_n 0, 1) := by decide +kernel
theorem dX9_step_56 : decode cX9_step 56 = .ok (.getfield 20, 3) := by decide +kernel
theorem dX9_step_59 : decode cX9_step 59 = .ok (.iload_n 2, 1) := by decide +kernel
theorem dX9_step_60 : decode cX9_step 60 = .ok (.iaload, 1) := by decide +kernel
theorem dX9_step_61 : decode cX9_step 61 = .ok (.aload_n 0, 1) := by decide +kernel
theorem dX9_step_62 : decode cX9_step 62 = .ok (.getfield 23, 3) := by decide +kernel
theorem dX9_step_65 : decode cX9_step 65 = .ok (.iload_n 2, 1) := by decide +kernel
theorem dX9_step_66 : decode cX9_step 66 = .ok (.iaload, 1) := by decide +kernel
theorem dX9_step_67 : decode cX9_step 67 = .ok (.invokevirtual 75, 3) := by decide +kernel
theorem dX9_step_70 : decode cX9_step 70 = .ok (.istore_n 3, 1) := by decide +kernel
theorem dX9_step_71 : decode cX9_step 71 = .ok (.iload_n 3, 1) := by decide +kernel
theorem dX9_step_72 : decode cX9_step 72 = .ok (.ifCond .ge 9, 3) := by decide +kernel
theorem dX9_step_75 : decode cX9_step 75 = .ok (.aload_n 1, 1) := by decide +kernel
theorem dX9_step_76 : decode cX9_step 76 = .ok (.iconst 4, 1) := by decide +kernel
theorem dX9_step_77 : decode cX9_step 77 = .ok (.iload_n 3, 1) := by decide +kernel
theorem dX9_step_78 : decode cX9_step 78 = .ok (.invokevirtual 79, 3) := by decide +kernel
theorem dX9_step_81 : decode cX9_step 81 = .ok (.return_, 1) := by decide +kernel
theorem dX9_known_0 : decode cX9_known 0 = .ok (.iload_n 2, 1) := by decide +kernel
theorem dX9_known_1 : decode cX9_known 1 = .ok (.ifCond .lt 9, 3) := by decide +kernel
theorem dX9_known_4 : decode cX9_known 4 = .ok (.iload_n 2, 1) := by decide +kernel
theorem dX9_known_5 : decode cX9_known 5 = .ok (.bipush 29, 2) := by decide +kernel
theorem dX9_known_7 : decode cX9_known 7 = .ok (.if_icmp .le 5, 3) := by decide +kernel
theorem dX9_known_10 : decode cX9_known 10 = .ok (.iconst (-1), 1) := by decide +kernel
theorem dX9_known_11 : decode cX9_known 11 = .ok (.ireturn, 1) := by decide +kernel
theorem dX9_known_12 : decode cX9_known 12 = .ok (.aload_n 0, 1) := by decide +kernel
theorem dX9_known_13 : decode cX9_known 13 = .ok (.aload_n 1, 1) := by decide +kernel
theorem dX9_known_14 : decode cX9_known 14 = .ok (.iload_n 2, 1) := by decide +kernel
theorem dX9_known_15 : decode cX9_known 15 = .ok (.iload_n 3, 1) := by decide +kernel
theorem dX9_known_16 : decode cX9_known 16 = .ok (.iload 4, 2) := by decide +kernel
theorem dX9_known_18 : decode cX9_known 18 = .ok (.iload 5, 2) := by decide +kernel
theorem dX9_known_20 : decode cX9_known 20 = .ok (.invokevirtual 83, 3) := by decide +kernel
theorem dX9_known_23 : decode cX9_known 23 = .ok (.ifCond .eq 5, 3) := by decide +kernel
theorem dX9_known_26 : decode cX9_known 26 = .ok (.iconst (-1), 1) := by decide +kernel
theorem dX9_known_27 : decode cX9_known 27 = .ok (.ireturn, 1) := by decide +kernel
theorem dX9_known_28 : decode cX9_known 28 = .ok (.aload_n 1, 1) := by decide +kernel
theorem dX9_known_29 : decode cX9_known 29 = .ok (.invokevirtual 87, 3) := by decide +kernel
theorem dX9_known_32 : decode cX9_known 32 = .ok (.ifCond .lt 7, 3) := by decide +kernel
theorem dX9_known_35 : decode cX9_known 35 = .ok (.iconst 1, 1) := by decide +kernel
theorem dX9_known_36 : decode cX9_known 36 = .ok (.goto 4, 3) := by decide +kernel
theorem dX9_known_39 : decode cX9_known 39 = .ok (.iconst 0, 1) := by decide +kernel
theorem dX9_known_40 : decode cX9_known 40 = .ok (.istore 6, 2) := by decide +kernel
theorem dX9_known_42 : decode cX9_known 42 = .ok (.iload 6, 2) := by decide +kernel
theorem dX9_known_44 : decode cX9_known 44 = .ok (.ifCond .eq 34, 3) := by decide +kernel
theorem dX9_known_47 : decode cX9_known 47 = .ok (.iload_n 2, 1) := by decide +kernel
theorem dX9_known_48 : decode cX9_known 48 = .ok (.ifCond .eq 27, 3) := by decide +kernel
theorem dX9_known_51 : decode cX9_known 51 = .ok (.iload_n 2, 1) := by decide +kernel
theorem dX9_known_52 : decode cX9_known 52 = .ok (.bipush 18, 2) := by decide +kernel
theorem dX9_known_54 : decode cX9_known 54 = .ok (.if_icmp .eq 21, 3) := by decide +kernel
theorem dX9_known_57 : decode cX9_known 57 = .ok (.iload_n 2, 1) := by decide +kernel
theorem dX9_known_58 : decode cX9_known 58 = .ok (.bipush 25, 2) := by decide +kernel
theorem dX9_known_60 : decode cX9_known 60 = .ok (.if_icmp .eq 15, 3) := by decide +kernel
theorem dX9_known_63 : decode cX9_known 63 = .ok (.iload_n 2, 1) := by decide +kernel
theorem dX9_known_64 : decode cX9_known 64 = .ok (.bipush 26, 2) := by decide +kernel
theorem dX9_known_66 : decode cX9_known 66 = .ok (.if_icmp .eq 9, 3) := by decide +kernel
theorem dX9_known_69 : decode cX9_known 69 = .ok (.iload_n 2, 1) := by decide +kernel
theorem dX9_known_70 : decode cX9_known 70 = .ok (.bipush 27, 2) := by decide +kernel
theorem dX9_known_72 : decode cX9_known 72 = .ok (.if_icmp .ne 6, 3) := by decide +kernel
theorem dX9_known_75 : decode cX9_known 75 = .ok (.bipush (-4), 2) := by decide +kernel
theorem dX9_known_77 : decode cX9_known 77 = .ok (.ireturn, 1) := by decide +kernel
theorem dX9_known_78 : decode cX9_known 78 = .ok (.iload 6, 2) := by decide +kernel
theorem dX9_known_80 : decode cX9_known 80 = .ok (.ifCond .ne 36, 3) := by decide +kernel
theorem dX9_known_83 : decode cX9_known 83 = .ok (.iload_n 2, 1) := by decide +kernel
theorem dX9_known_84 : decode cX9_known 84 = .ok (.bipush 16, 2) := by decide +kernel
theorem dX9_known_86 : decode cX9_known 86 = .ok (.if_icmp .eq 27, 3) := by decide +kernel
theorem dX9_known_89 : decode cX9_known 89 = .ok (.iload_n 2, 1) := by decide +kernel
theorem dX9_known_90 : decode cX9_known 90 = .ok (.bipush 17, 2) := by decide +kernel
theorem dX9_known_92 : decode cX9_known 92 = .ok (.if_icmp .eq 21, 3) := by decide +kernel
theorem dX9_known_95 : decode cX9_known 95 = .ok (.iload_n 2, 1) := by decide +kernel
theorem dX9_known_96 : decode cX9_known 96 = .ok (.bipush 19, 2) := by decide +kernel
theorem dX9_known_98 : decode cX9_known 98 = .ok (.if_icmp .eq 15, 3) := by decide +kernel
theorem dX9_known_101 : decode cX9_known 101 = .ok (.iload_n 2, 1) := by decide +kernel
theorem dX9_known_102 : decode cX9_known 102 = .ok (.bipush 20, 2) := by decide +kernel
theorem dX9_known_104 : decode cX9_known 104 = .ok (.if_icmp .eq 9, 3) := by decide +kernel
theorem dX9_known_107 : decode cX9_known 107 = .ok (.iload_n 2, 1) := by decide +kernel
theorem dX9_known_108 : decode cX9_known 108 = .ok (.bipush 23, 2) := by decide +kernel
theorem dX9_known_110 : decode cX9_known 110 = .ok (.if_icmp .ne 6, 3) := by decide +kernel
theorem dX9_known_113 : decode cX9_known 113 = .ok (.bipush (-4), 2) := by decide +kernel
theorem dX9_known_115 : decode cX9_known 115 = .ok (.ireturn, 1) := by decide +kernel
theorem dX9_known_116 : decode cX9_known 116 = .ok (.iload_n 2, 1) := by decide +kernel
theorem dX9_known_117 : decode cX9_known 117 = .ok (.bipush 15, 2) := by decide +kernel
theorem dX9_known_119 : decode cX9_known 119 = .ok (.if_icmp .le 9, 3) := by decide +kernel
theorem dX9_known_122 : decode cX9_known 122 = .ok (.iload_n 2, 1) := by decide +kernel
theorem dX9_known_123 : decode cX9_known 123 = .ok (.bipush 29, 2) := by decide +kernel
theorem dX9_known_125 : decode cX9_known 125 = .ok (.if_icmp .ne 15, 3) := by decide +kernel
theorem dX9_known_128 : decode cX9_known 128 = .ok (.aload_n 0, 1) := by decide +kernel
theorem dX9_known_129 : decode cX9_known 129 = .ok (.aload_n 1, 1) := by decide +kernel
theorem dX9_known_130 : decode cX9_known 130 = .ok (.iload_n 2, 1) := by decide +kernel
theorem dX9_known_131 : decode cX9_known 131 = .ok (.iload_n 3, 1) := by decide +kernel
theorem dX9_known_132 : decode cX9_known 132 = .ok (.iload 4, 2) := by decide +kernel
theorem dX9_known_134 : decode cX9_known 134 = .ok (.iload 5, 2) := by decide +kernel
theorem dX9_known_136 : decode cX9_known 136 = .ok (.invokevirtual 91, 3) := by decide +kernel
theorem dX9_known_139 : decode cX9_known 139 = .ok (.ireturn, 1) := by decide +kernel
theorem dX9_known_140 : decode cX9_known 140 = .ok (.iload_n 2, 1) := by decide +kernel
theorem dX9_known_141 : decode cX9_known 141 = .ok (.bipush 24, 2) := by decide +kernel
theorem dX9_known_143 : decode cX9_known 143 = .ok (.if_icmp .gt 13, 3) := by decide +kernel
theorem dX9_known_146 : decode cX9_known 146 = .ok (.aload_n 0, 1) := by decide +kernel
theorem dX9_known_147 : decode cX9_known 147 = .ok (.aload_n 1, 1) := by decide +kernel
theorem dX9_known_148 : decode cX9_known 148 = .ok (.iload_n 2, 1) := by decide +kernel
theorem dX9_known_149 : decode cX9_known 149 = .ok (.iload_n 3, 1) := by decide +kernel
theorem dX9_known_150 : decode cX9_known 150 = .ok (.iload 4, 2) := by decide +kernel
theorem dX9_known_152 : decode cX9_known 152 = .ok (.invokevirtual 94, 3) := by decide +kernel
theorem dX9_known_155 : decode cX9_known 155 = .ok (.ireturn, 1) := by decide +kernel
theorem dX9_known_156 : decode cX9_known 156 = .ok (.aload_n 0, 1) := by decide +kernel
theorem dX9_known_157 : decode cX9_known 157 = .ok (.aload_n 1, 1) := by decide +kernel
theorem dX9_known_158 : decode cX9_known 158 = .ok (.iload_n 2, 1) := by decide +kernel
theorem dX9_known_159 : decode cX9_known 159 = .ok (.iload_n 3, 1) := by decide +kernel
theorem dX9_known_160 : decode cX9_known 160 = .ok (.iload 4, 2) := by decide +kernel
theorem dX9_known_162 : decode cX9_known 162 = .ok (.invokevirtual 98, 3) := by decide +kernel
theorem dX9_known_165 : decode cX9_known 165 = .ok (.ireturn, 1) := by decide +kernel
theorem dX9_wrong_0 : decode cX9_wrong 0 = .ok (.iload_n 3, 1) := by decide +kernel
theorem dX9_wrong_1 : decode cX9_wrong 1 = .ok (.invokestatic 101, 3) := by decide +kernel
theorem dX9_wrong_4 : decode cX9_wrong 4 = .ok (.istore 6, 2) := by decide +kernel
theorem dX9_wrong_6 : decode cX9_wrong 6 = .ok (.iload 4, 2) := by decide +kernel
theorem dX9_wrong_8 : decode cX9_wrong 8 = .ok (.invokestatic 101, 3) := by decide +kernel
theorem dX9_wrong_11 : decode cX9_wrong 11 = .ok (.istore 7, 2) := by decide +kernel
theorem dX9_wrong_13 : decode cX9_wrong 13 = .ok (.iload_n 2, 1) := by decide +kernel
theorem dX9_wrong_14 : decode cX9_wrong 14 = .ok (.tableswitch 405 1 29 #[130, 133, 169, 169, 169, 169, 133, 405, 219, 405, 405, 133, 222, 222, 133, 251, 280, 405, 405, 405, 405, 405, 405, 308, 342, 345, 368, 386, 133], 130) := by decide +kernel
theorem dX9_wrong_144 : decode cX9_wrong 144 = .ok (.iload 6, 2) := by decide +kernel
theorem dX9_wrong_146 : decode cX9_wrong 146 = .ok (.ireturn, 1) := by decide +kernel
theorem dX9_wrong_147 : decode cX9_wrong 147 = .ok (.iload 6, 2) := by decide +kernel
theorem dX9_wrong_149 : decode cX9_wrong 149 = .ok (.ifCond .ne 28, 3) := by decide +kernel
theorem dX9_wrong_152 : decode cX9_wrong 152 = .ok (.iload 7, 2) := by decide +kernel
theorem dX9_wrong_154 : decode cX9_wrong 154 = .ok (.ifCond .ne 23, 3) := by decide +kernel
theorem dX9_wrong_157 : decode cX9_wrong 157 = .ok (.iload_n 2, 1) := by decide +kernel
theorem dX9_wrong_158 : decode cX9_wrong 158 = .ok (.bipush 7, 2) := by decide +kernel
theorem dX9_wrong_160 : decode cX9_wrong 160 = .ok (.if_icmp .eq 9, 3) := by decide +kernel
theorem dX9_wrong_163 : decode cX9_wrong 163 = .ok (.iload_n 2, 1) := by decide +kernel
theorem dX9_wrong_164 : decode cX9_wrong 164 = .ok (.bipush 12, 2) := by decide +kernel
theorem dX9_wrong_166 : decode cX9_wrong 166 = .ok (.if_icmp .ne 15, 3) := by decide +kernel
theorem dX9_wrong_169 : decode cX9_wrong 169 = .ok (.iload 5, 2) := by decide +kernel
theorem dX9_wrong_171 : decode cX9_wrong 171 = .ok (.invokestatic 101, 3) := by decide +kernel
theorem dX9_wrong_174 : decode cX9_wrong 174 = .ok (.ifCond .eq 7, 3) := by decide +kernel
theorem dX9_wrong_177 : decode cX9_wrong 177 = .ok (.iconst 1, 1) := by decide +kernel
theorem dX9_wrong_178 : decode cX9_wrong 178 = .ok (.goto 4, 3) := by decide +kernel
theorem dX9_wrong_181 : decode cX9_wrong 181 = .ok (.iconst 0, 1) := by decide +kernel
theorem dX9_wrong_182 : decode cX9_wrong 182 = .ok (.ireturn, 1) := by decide +kernel
theorem dX9_wrong_183 : decode cX9_wrong 183 = .ok (.iload 6, 2) := by decide +kernel
theorem dX9_wrong_185 : decode cX9_wrong 185 = .ok (.ifCond .ne 42, 3) := by decide +kernel
theorem dX9_wrong_188 : decode cX9_wrong 188 = .ok (.iload 7, 2) := by decide +kernel
theorem dX9_wrong_190 : decode cX9_wrong 190 = .ok (.ifCond .ne 37, 3) := by decide +kernel
theorem dX9_wrong_193 : decode cX9_wrong 193 = .ok (.iload 5, 2) := by decide +kernel
theorem dX9_wrong_195 : decode cX9_wrong 195 = .ok (.invokestatic 101, 3) := by decide +kernel
theorem dX9_wrong_198 : decode cX9_wrong 198 = .ok (.ifCond .ne 29, 3) := by decide +kernel
theorem dX9_wrong_201 : decode cX9_wrong 201 = .ok (.aload_n 1, 1) := by decide +kernel
theorem dX9_wrong_202 : decode cX9_wrong 202 = .ok (.getfield 105, 3) := by decide +kernel
theorem dX9_wrong_205 : decode cX9_wrong 205 = .ok (.iload 4, 2) := by decide +kernel
theorem dX9_wrong_207 : decode cX9_wrong 207 = .ok (.laload, 1) := by decide +kernel
theorem dX9_wrong_208 : decode cX9_wrong 208 = .ok (.invokestatic 108, 3) := by decide +kernel
theorem dX9_wrong_211 : decode cX9_wrong 211 = .ok (.ifCond .eq 16, 3) := by decide +kernel
theorem dX9_wrong_214 : decode cX9_wrong 214 = .ok (.aload_n 1, 1) := by decide +kernel
theorem dX9_wrong_215 : decode cX9_wrong 215 = .ok (.getfield 105, 3) := by decide +kernel
theorem dX9_wrong_218 : decode cX9_wrong 218 = .ok (.iload 5, 2) := by decide +kernel
theorem dX9_wrong_220 : decode cX9_wrong 220 = .ok (.laload, 1) := by decide +kernel
theorem dX9_wrong_221 : decode cX9_wrong 221 = .ok (.invokestatic 108, 3) := by decide +kernel
theorem dX9_wrong_224 : decode cX9_wrong 224 = .ok (.ifCond .ne 7, 3) := by decide +kernel
theorem dX9_wrong_227 : decode cX9_wrong 227 = .ok (.iconst 1, 1) := by decide +kernel
theorem dX9_wrong_228 : decode cX9_wrong 228 = .ok (.goto 4, 3) := by decide +kernel
theorem dX9_wrong_231 : decode cX9_wrong 231 = .ok (.iconst 0, 1) := by decide +kernel
theorem dX9_wrong_232 : decode cX9_wrong 232 = .ok (.ireturn, 1) := by decide +kernel
theorem dX9_wrong_233 : decode cX9_wrong 233 = .ok (.iload 6, 2) := by decide +kernel
theorem dX9_wrong_235 : decode cX9_wrong 235 = .ok (.ireturn, 1) := by decide +kernel
theorem dX9_wrong_236 : decode cX9_wrong 236 = .ok (.iload 6, 2) := by decide +kernel
theorem dX9_wrong_238 : decode cX9_wrong 238 = .ok (.ifCond .ne 21, 3) := by decide +kernel
theorem dX9_wrong_241 : decode cX9_wrong 241 = .ok (.iload 7, 2) := by decide +kernel
theorem dX9_wrong_243 : decode cX9_wrong 243 = .ok (.ifCond .ne 16, 3) := by decide +kernel
theorem dX9_wrong_246 : decode cX9_wrong 246 = .ok (.aload_n 1, 1) := by decide +kernel
theorem dX9_wrong_247 : decode cX9_wrong 247 = .ok (.getfield 105, 3) := by decide +kernel
theorem dX9_wrong_250 : decode cX9_wrong 250 = .ok (.iload 4, 2) := by decide +kernel
theorem dX9_wrong_252 : decode cX9_wrong 252 = .ok (.laload, 1) := by decide +kernel
theorem dX9_wrong_253 : decode cX9_wrong 253 = .ok (.invokestatic 112, 3) := by decide +kernel
theorem dX9_wrong_256 : decode cX9_wrong 256 = .ok (.ifCond .ne 7, 3) := by decide +kernel
theorem dX9_wrong_259 : decode cX9_wrong 259 = .ok (.iconst 1, 1) := by decide +kernel
theorem dX9_wrong_260 : decode cX9_wrong 260 = .ok (.goto 4, 3) := by decide +kernel
theorem dX9_wrong_263 : decode cX9_wrong 263 = .ok (.iconst 0, 1) := by decide +kernel
theorem dX9_wrong_264 : decode cX9_wrong 264 = .ok (.ireturn, 1) := by decide +kernel
theorem dX9_wrong_265 : decode cX9_wrong 265 = .ok (.iload 6, 2) := by decide +kernel
theorem dX9_wrong_267 : decode cX9_wrong 267 = .ok (.ifCond .ne 21, 3) := by decide +kernel
theorem dX9_wrong_270 : decode cX9_wrong 270 = .ok (.iload 7, 2) := by decide +kernel
theorem dX9_wrong_272 : decode cX9_wrong 272 = .ok (.ifCond .ne 16, 3) := by decide +kernel
theorem dX9_wrong_275 : decode cX9_wrong 275 = .ok (.aload_n 1, 1) := by decide +kernel
theorem dX9_wrong_276 : decode cX9_wrong 276 = .ok (.getfield 105, 3) := by decide +kernel
theorem dX9_wrong_279 : decode cX9_wrong 279 = .ok (.iload 4, 2) := by decide +kernel
theorem dX9_wrong_281 : decode cX9_wrong 281 = .ok (.laload, 1) := by decide +kernel
theorem dX9_wrong_282 : decode cX9_wrong 282 = .ok (.invokestatic 115, 3) := by decide +kernel
theorem dX9_wrong_285 : decode cX9_wrong 285 = .ok (.ifCond .ne 7, 3) := by decide +kernel
theorem dX9_wrong_288 : decode cX9_wrong 288 = .ok (.iconst 1, 1) := by decide +kernel
theorem dX9_wrong_289 : decode cX9_wrong 289 = .ok (.goto 4, 3) := by decide +kernel
theorem dX9_wrong_292 : decode cX9_wrong 292 = .ok (.iconst 0, 1) := by decide +kernel
theorem dX9_wrong_293 : decode cX9_wrong 293 = .ok (.ireturn, 1) := by decide +kernel
theorem dX9_wrong_294 : decode cX9_wrong 294 = .ok (.iload 6, 2) := by decide +kernel
theorem dX9_wrong_296 : decode cX9_wrong 296 = .ok (.ifCond .ne 20, 3) := by decide +kernel
theorem dX9_wrong_299 : decode cX9_wrong 299 = .ok (.iload 7, 2) := by decide +kernel
theorem dX9_wrong_301 : decode cX9_wrong 301 = .ok (.ifCond .ne 15, 3) := by decide +kernel
theorem dX9_wrong_304 : decode cX9_wrong 304 = .ok (.aload_n 1, 1) := by decide +kernel
theorem dX9_wrong_305 : decode cX9_wrong 305 = .ok (.getfield 105, 3) := by decide +kernel
theorem dX9_wrong_308 : decode cX9_wrong 308 = .ok (.iload_n 3, 1) := by decide +kernel
theorem dX9_wrong_309 : decode cX9_wrong 309 = .ok (.laload, 1) := by decide +kernel
theorem dX9_wrong_310 : decode cX9_wrong 310 = .ok (.invokestatic 115, 3) := by decide +kernel
theorem dX9_wrong_313 : decode cX9_wrong 313 = .ok (.ifCond .ne 7, 3) := by decide +kernel
theorem dX9_wrong_316 : decode cX9_wrong 316 = .ok (.iconst 1, 1) := by decide +kernel
theorem dX9_wrong_317 : decode cX9_wrong 317 = .ok (.goto 4, 3) := by decide +kernel
theorem dX9_wrong_320 : decode cX9_wrong 320 = .ok (.iconst 0, 1) := by decide +kernel
theorem dX9_wrong_321 : decode cX9_wrong 321 = .ok (.ireturn, 1) := by decide +kernel
theorem dX9_wrong_322 : decode cX9_wrong 322 = .ok (.iload 6, 2) := by decide +kernel
theorem dX9_wrong_324 : decode cX9_wrong 324 = .ok (.ifCond .ne 26, 3) := by decide +kernel
theorem dX9_wrong_327 : decode cX9_wrong 327 = .ok (.aload_n 1, 1) := by decide +kernel
theorem dX9_wrong_328 : decode cX9_wrong 328 = .ok (.getfield 105, 3) := by decide +kernel
theorem dX9_wrong_331 : decode cX9_wrong 331 = .ok (.iload_n 3, 1) := by decide +kernel
theorem dX9_wrong_332 : decode cX9_wrong 332 = .ok (.laload, 1) := by decide +kernel
theorem dX9_wrong_333 : decode cX9_wrong 333 = .ok (.invokestatic 108, 3) := by decide +kernel
theorem dX9_wrong_336 : decode cX9_wrong 336 = .ok (.ifCond .eq 14, 3) := by decide +kernel
theorem dX9_wrong_339 : decode cX9_wrong 339 = .ok (.aload_n 1, 1) := by decide +kernel
theorem dX9_wrong_340 : decode cX9_wrong 340 = .ok (.getfield 105, 3) := by decide +kernel
theorem dX9_wrong_343 : decode cX9_wrong 343 = .ok (.iload_n 3, 1) := by decide +kernel
theorem dX9_wrong_344 : decode cX9_wrong 344 = .ok (.laload, 1) := by decide +kernel
theorem dX9_wrong_345 : decode cX9_wrong 345 = .ok (.lconst 0, 1) := by decide +kernel
theorem dX9_wrong_346 : decode cX9_wrong 346 = .ok (.lcmp, 1) := by decide +kernel
theorem dX9_wrong_347 : decode cX9_wrong 347 = .ok (.ifCond .ge 7, 3) := by decide +kernel
theorem dX9_wrong_350 : decode cX9_wrong 350 = .ok (.iconst 1, 1) := by decide +kernel
theorem dX9_wrong_351 : decode cX9_wrong 351 = .ok (.goto 4, 3) := by decide +kernel
theorem dX9_wrong_354 : decode cX9_wrong 354 = .ok (.iconst 0, 1) := by decide +kernel
theorem dX9_wrong_355 : decode cX9_wrong 355 = .ok (.ireturn, 1) := by decide +kernel
theorem dX9_wrong_356 : decode cX9_wrong 356 = .ok (.iload 6, 2) := by decide +kernel
theorem dX9_wrong_358 : decode cX9_wrong 358 = .ok (.ireturn, 1) := by decide +kernel
theorem dX9_wrong_359 : decode cX9_wrong 359 = .ok (.iload 6, 2) := by decide +kernel
theorem dX9_wrong_361 : decode cX9_wrong 361 = .ok (.ifCond .ne 15, 3) := by decide +kernel
theorem dX9_wrong_364 : decode cX9_wrong 364 = .ok (.aload_n 1, 1) := by decide +kernel
theorem dX9_wrong_365 : decode cX9_wrong 365 = .ok (.getfield 105, 3) := by decide +kernel
theorem dX9_wrong_368 : decode cX9_wrong 368 = .ok (.iload_n 3, 1) := by decide +kernel
theorem dX9_wrong_369 : decode cX9_wrong 369 = .ok (.laload, 1) := by decide +kernel
theorem dX9_wrong_370 : decode cX9_wrong 370 = .ok (.invokestatic 108, 3) := by decide +kernel
theorem dX9_wrong_373 : decode cX9_wrong 373 = .ok (.ifCond .ne 7, 3) := by decide +kernel
theorem dX9_wrong_376 : decode cX9_wrong 376 = .ok (.iconst 1, 1) := by decide +kernel
theorem dX9_wrong_377 : decode cX9_wrong 377 = .ok (.goto 4, 3) := by decide +kernel
theorem dX9_wrong_380 : decode cX9_wrong 380 = .ok (.iconst 0, 1) := by decide +kernel
theorem dX9_wrong_381 : decode cX9_wrong 381 = .ok (.ireturn, 1) := by decide +kernel
theorem dX9_wrong_382 : decode cX9_wrong 382 = .ok (.iload_n 3, 1) := by decide +kernel
theorem dX9_wrong_383 : decode cX9_wrong 383 = .ok (.invokestatic 118, 3) := by decide +kernel
theorem dX9_wrong_386 : decode cX9_wrong 386 = .ok (.ifCond .ne 8, 3) := by decide +kernel
theorem dX9_wrong_389 : decode cX9_wrong 389 = .ok (.iload 7, 2) := by decide +kernel
theorem dX9_wrong_391 : decode cX9_wrong 391 = .ok (.ifCond .eq 7, 3) := by decide +kernel
theorem dX9_wrong_394 : decode cX9_wrong 394 = .ok (.iconst 1, 1) := by decide +kernel
theorem dX9_wrong_395 : decode cX9_wrong 395 = .ok (.goto 4, 3) := by decide +kernel
theorem dX9_wrong_398 : decode cX9_wrong 398 = .ok (.iconst 0, 1) := by decide +kernel
theorem dX9_wrong_399 : decode cX9_wrong 399 = .ok (.ireturn, 1) := by decide +kernel
theorem dX9_wrong_400 : decode cX9_wrong 400 = .ok (.iload 6, 2) := by decide +kernel
theorem dX9_wrong_402 : decode cX9_wrong 402 = .ok (.ifCond .ne 11, 3) := by decide +kernel
theorem dX9_wrong_405 : decode cX9_wrong 405 = .ok (.iload 4, 2) := by decide +kernel
theorem dX9_wrong_407 : decode cX9_wrong 407 = .ok (.invokestatic 118, 3) := by decide +kernel
theorem dX9_wrong_410 : decode cX9_wrong 410 = .ok (.ifCond .eq 7, 3) := by decide +kernel
theorem dX9_wrong_413 : decode cX9_wrong 413 = .ok (.iconst 1, 1) := by decide +kernel
theorem dX9_wrong_414 : decode cX9_wrong 414 = .ok (.goto 4, 3) := by decide +kernel
theorem dX9_wrong_417 : decode cX9_wrong 417 = .ok (.iconst 0, 1) := by decide +kernel
theorem dX9_wrong_418 : decode cX9_wrong 418 = .ok (.ireturn, 1) := by decide +kernel
theorem dX9_wrong_419 : decode cX9_wrong 419 = .ok (.iconst 0, 1) := by decide +kernel
theorem dX9_wrong_420 : decode cX9_wrong 420 = .ok (.ireturn, 1) := by decide +kernel
theorem dX9_plain_0 : decode cX9_plain 0 = .ok (.aload_n 1, 1) := by decide +kernel
theorem dX9_plain_1 : decode cX9_plain 1 = .ok (.getfield 105, 3) := by decide +kernel
theorem dX9_plain_4 : decode cX9_plain 4 = .ok (.astore 6, 2) := by decide +kernel
theorem dX9_plain_6 : decode cX9_plain 6 = .ok (.iload_n 2, 1) := by decide +kernel
theorem dX9_plain_7 : decode cX9_plain 7 = .ok (.tableswitch 405 0 15 #[77, 95, 104, 115, 134, 153, 172, 197, 222, 229, 246, 288, 345, 367, 386, 345], 77) := by decide +kernel
theorem dX9_plain_84 : decode cX9_plain 84 = .ok (.aload_n 1, 1) := by decide +kernel
theorem dX9_plain_85 : decode cX9_plain 85 = .ok (.getfield 121, 3) := by decide +kernel
theorem dX9_plain_88 : decode cX9_plain 88 = .ok (.ifCond .le 6, 3) := by decide +kernel
theorem dX9_plain_91 : decode cX9_plain 91 = .ok (.bipush (-4), 2) := by decide +kernel
theorem dX9_plain_93 : decode cX9_plain 93 = .ok (.ireturn, 1) := by decide +kernel
theorem dX9_plain_94 : decode cX9_plain 94 = .ok (.aload_n 1, 1) := by decide +kernel
theorem dX9_plain_95 : decode cX9_plain 95 = .ok (.iconst 3, 1) := by decide +kernel
theorem dX9_plain_96 : decode cX9_plain 96 = .ok (.iconst 0, 1) := by decide +kernel
theorem dX9_plain_97 : decode cX9_plain 97 = .ok (.invokevirtual 79, 3) := by decide +kernel
theorem dX9_plain_100 : decode cX9_plain 100 = .ok (.iconst 0, 1) := by decide +kernel
theorem dX9_plain_101 : decode cX9_plain 101 = .ok (.ireturn, 1) := by decide +kernel
theorem dX9_plain_102 : decode cX9_plain 102 = .ok (.aload 6, 2) := by decide +kernel
theorem dX9_plain_104 : decode cX9_plain 104 = .ok (.iload_n 3, 1) := by decide +kernel
theorem dX9_plain_105 : decode cX9_plain 105 = .ok (.iload 4, 2) := by decide +kernel
theorem dX9_plain_107 : decode cX9_plain 107 = .ok (.i2l, 1) := by decide +kernel
theorem dX9_plain_108 : decode cX9_plain 108 = .ok (.lastore, 1) := by decide +kernel
theorem dX9_plain_109 : decode cX9_plain 109 = .ok (.iconst 0, 1) := by decide +kernel
theorem dX9_plain_110 : decode cX9_plain 110 = .ok (.ireturn, 1) := by decide +kernel
theorem dX9_plain_111 : decode cX9_plain 111 = .ok (.aload 6, 2) := by decide +kernel
theorem dX9_plain_113 : decode cX9_plain 113 = .ok (.iload_n 3, 1) := by decide +kernel
theorem dX9_plain_114 : decode cX9_plain 114 = .ok (.aload 6, 2) := by decide +kernel
theorem dX9_plain_116 : decode cX9_plain 116 = .ok (.iload 4, 2) := by decide +kernel
theorem dX9_plain_118 : decode cX9_plain 118 = .ok (.laload, 1) := by decide +kernel
theorem dX9_plain_119 : decode cX9_plain 119 = .ok (.lastore, 1) := by decide +kernel
theorem dX9_plain_120 : decode cX9_plain 120 = .ok (.iconst 0, 1) := by decide +kernel
theorem dX9_plain_121 : decode cX9_plain 121 = .ok (.ireturn, 1) := by decide +kernel
theorem dX9_plain_122 : decode cX9_plain 122 = .ok (.aload 6, 2) := by decide +kernel
theorem dX9_plain_124 : decode cX9_plain 124 = .ok (.iload_n 3, 1) := by decide +kernel
theorem dX9_plain_125 : decode cX9_plain 125 = .ok (.aload 6, 2) := by decide +kernel
theorem dX9_plain_127 : decode cX9_plain 127 = .ok (.iload 4, 2) := by decide +kernel
theorem dX9_plain_129 : decode cX9_plain 129 = .ok (.laload, 1) := by decide +kernel
theorem dX9_plain_130 : decode cX9_plain 130 = .ok (.aload 6, 2) := by decide +kernel
theorem dX9_plain_132 : decode cX9_plain 132 = .ok (.iload 5, 2) := by decide +kernel
theorem dX9_plain_134 : decode cX9_plain 134 = .ok (.laload, 1) := by decide +kernel
theorem dX9_plain_135 : decode cX9_plain 135 = .ok (.ladd, 1) := by decide +kernel
theorem dX9_plain_136 : decode cX9_plain 136 = .ok (.l2i, 1) := by decide +kernel
theorem dX9_plain_137 : decode cX9_plain 137 = .ok (.i2l, 1) := by decide +kernel
theorem dX9_plain_138 : decode cX9_plain 138 = .ok (.lastore, 1) := by decide +kernel
theorem dX9_plain_139 : decode cX9_plain 139 = .ok (.iconst 0, 1) := by decide +kernel
theorem dX9_plain_140 : decode cX9_plain 140 = .ok (.ireturn, 1) := by decide +kernel
theorem dX9_plain_141 : decode cX9_plain 141 = .ok (.aload 6, 2) := by decide +kernel
theorem dX9_plain_143 : decode cX9_plain 143 = .ok (.iload_n 3, 1) := by decide +kernel
theorem dX9_plain_144 : decode cX9_plain 144 = .ok (.aload 6, 2) := by decide +kernel
theorem dX9_plain_146 : decode cX9_plain 146 = .ok (.iload 4, 2) := by decide +kernel
theorem dX9_plain_148 : decode cX9_plain 148 = .ok (.laload, 1) := by decide +kernel
theorem dX9_plain_149 : decode cX9_plain 149 = .ok (.aload 6, 2) := by decide +kernel
theorem dX9_plain_151 : decode cX9_plain 151 = .ok (.iload 5, 2) := by decide +kernel
theorem dX9_plain_153 : decode cX9_plain 153 = .ok (.laload, 1) := by decide +kernel
theorem dX9_plain_154 : decode cX9_plain 154 = .ok (.lsub, 1) := by decide +kernel
theorem dX9_plain_155 : decode cX9_plain 155 = .ok (.l2i, 1) := by decide +kernel
theorem dX9_plain_156 : decode cX9_plain 156 = .ok (.i2l, 1) := by decide +kernel
theorem dX9_plain_157 : decode cX9_plain 157 = .ok (.lastore, 1) := by decide +kernel
theorem dX9_plain_158 : decode cX9_plain 158 = .ok (.iconst 0, 1) := by decide +kernel
theorem dX9_plain_159 : decode cX9_plain 159 = .ok (.ireturn, 1) := by decide +kernel
theorem dX9_plain_160 : decode cX9_plain 160 = .ok (.aload 6, 2) := by decide +kernel
theorem dX9_plain_162 : decode cX9_plain 162 = .ok (.iload_n 3, 1) := by decide +kernel
theorem dX9_plain_163 : decode cX9_plain 163 = .ok (.aload 6, 2) := by decide +kernel
theorem dX9_plain_165 : decode cX9_plain 165 = .ok (.iload 4, 2) := by decide +kernel
theorem dX9_plain_167 : decode cX9_plain 167 = .ok (.laload, 1) := by decide +kernel
theorem dX9_plain_168 : decode cX9_plain 168 = .ok (.aload 6, 2) := by decide +kernel
theorem dX9_plain_170 : decode cX9_plain 170 = .ok (.iload 5, 2) := by decide +kernel
theorem dX9_plain_172 : decode cX9_plain 172 = .ok (.laload, 1) := by decide +kernel
theorem dX9_plain_173 : decode cX9_plain 173 = .ok (.lmul, 1) := by decide +kernel
theorem dX9_plain_174 : decode cX9_plain 174 = .ok (.l2i, 1) := by decide +kernel
theorem dX9_plain_175 : decode cX9_plain 175 = .ok (.i2l, 1) := by decide +kernel
theorem dX9_plain_176 : decode cX9_plain 176 = .ok (.lastore, 1) := by decide +kernel
theorem dX9_plain_177 : decode cX9_plain 177 = .ok (.iconst 0, 1) := by decide +kernel
theorem dX9_plain_178 : decode cX9_plain 178 = .ok (.ireturn, 1) := by decide +kernel
theorem dX9_plain_179 : decode cX9_plain 179 = .ok (.aload 6, 2) := by decide +kernel
theorem dX9_plain_181 : decode cX9_plain 181 = .ok (.iload_n 3, 1) := by decide +kernel
theorem dX9_plain_182 : decode cX9_plain 182 = .ok (.aload 6, 2) := by decide +kernel
theorem dX9_plain_184 : decode cX9_plain 184 = .ok (.iload 4, 2) := by decide +kernel
theorem dX9_plain_186 : decode cX9_plain 186 = .ok (.laload, 1) := by decide +kernel
theorem dX9_plain_187 : decode cX9_plain 187 = .ok (.aload 6, 2) := by decide +kernel
theorem dX9_plain_189 : decode cX9_plain 189 = .ok (.iload 5, 2) := by decide +kernel
theorem dX9_plain_191 : decode cX9_plain 191 = .ok (.laload, 1) := by decide +kernel
theorem dX9_plain_192 : decode cX9_plain 192 = .ok (.lcmp, 1) := by decide +kernel
theorem dX9_plain_193 : decode cX9_plain 193 = .ok (.ifCond .ge 7, 3) := by decide +kernel
theorem dX9_plain_196 : decode cX9_plain 196 = .ok (.lconst 1, 1) := by decide +kernel
theorem dX9_plain_197 : decode cX9_plain 197 = .ok (.goto 4, 3) := by decide +kernel
theorem dX9_plain_200 : decode cX9_plain 200 = .ok (.lconst 0, 1) := by decide +kernel
theorem dX9_plain_201 : decode cX9_plain 201 = .ok (.lastore, 1) := by decide +kernel
theorem dX9_plain_202 : decode cX9_plain 202 = .ok (.iconst 0, 1) := by decide +kernel
theorem dX9_plain_203 : decode cX9_plain 203 = .ok (.ireturn, 1) := by decide +kernel
theorem dX9_plain_204 : decode cX9_plain 204 = .ok (.aload 6, 2) := by decide +kernel
theorem dX9_plain_206 : decode cX9_plain 206 = .ok (.iload_n 3, 1) := by decide +kernel
theorem dX9_plain_207 : decode cX9_plain 207 = .ok (.aload 6, 2) := by decide +kernel
theorem dX9_plain_209 : decode cX9_plain 209 = .ok (.iload 4, 2) := by decide +kernel
theorem dX9_plain_211 : decode cX9_plain 211 = .ok (.laload, 1) := by decide +kernel
theorem dX9_plain_212 : decode cX9_plain 212 = .ok (.aload 6, 2) := by decide +kernel
theorem dX9_plain_214 : decode cX9_plain 214 = .ok (.iload 5, 2) := by decide +kernel
theorem dX9_plain_216 : decode cX9_plain 216 = .ok (.laload, 1) := by decide +kernel
theorem dX9_plain_217 : decode cX9_plain 217 = .ok (.lcmp, 1) := by decide +kernel
theorem dX9_plain_218 : decode cX9_plain 218 = .ok (.ifCond .ne 7, 3) := by decide +kernel
theorem dX9_plain_221 : decode cX9_plain 221 = .ok (.lconst 1, 1) := by decide +kernel
theorem dX9_plain_222 : decode cX9_plain 222 = .ok (.goto 4, 3) := by decide +kernel
theorem dX9_plain_225 : decode cX9_plain 225 = .ok (.lconst 0, 1) := by decide +kernel
theorem dX9_plain_226 : decode cX9_plain 226 = .ok (.lastore, 1) := by decide +kernel
theorem dX9_plain_227 : decode cX9_plain 227 = .ok (.iconst 0, 1) := by decide +kernel
theorem dX9_plain_228 : decode cX9_plain 228 = .ok (.ireturn, 1) := by decide +kernel
theorem dX9_plain_229 : decode cX9_plain 229 = .ok (.aload_n 1, 1) := by decide +kernel
theorem dX9_plain_230 : decode cX9_plain 230 = .ok (.iload_n 3, 1) := by decide +kernel
theorem dX9_plain_231 : decode cX9_plain 231 = .ok (.putfield 69, 3) := by decide +kernel
theorem dX9_plain_234 : decode cX9_plain 234 = .ok (.iconst 0, 1) := by decide +kernel
theorem dX9_plain_235 : decode cX9_plain 235 = .ok (.ireturn, 1) := by decide +kernel
theorem dX9_plain_236 : decode cX9_plain 236 = .ok (.aload 6, 2) := by decide +kernel
theorem dX9_plain_238 : decode cX9_plain 238 = .ok (.iload_n 3, 1) := by decide +kernel
theorem dX9_plain_239 : decode cX9_plain 239 = .ok (.laload, 1) := by decide +kernel
theorem dX9_plain_240 : decode cX9_plain 240 = .ok (.lconst 0, 1) := by decide +kernel
theorem dX9_plain_241 : decode cX9_plain 241 = .ok (.lcmp, 1) := by decide +kernel
theorem dX9_plain_242 : decode cX9_plain 242 = .ok (.ifCond .ne 9, 3) := by decide +kernel
theorem dX9_plain_245 : decode cX9_plain 245 = .ok (.aload_n 1, 1) := by decide +kernel
theorem dX9_plain_246 : decode cX9_plain 246 = .ok (.iload 4, 2) := by decide +kernel
theorem dX9_plain_248 : decode cX9_plain 248 = .ok (.putfield 69, 3) := by decide +kernel
theorem dX9_plain_251 : decode cX9_plain 251 = .ok (.iconst 0, 1) := by decide +kernel
theorem dX9_plain_252 : decode cX9_plain 252 = .ok (.ireturn, 1) := by decide +kernel
theorem dX9_plain_253 : decode cX9_plain 253 = .ok (.aload_n 1, 1) := by decide +kernel
theorem dX9_plain_254 : decode cX9_plain 254 = .ok (.getfield 124, 3) := by decide +kernel
theorem dX9_plain_257 : decode cX9_plain 257 = .ok (.bipush 40, 2) := by decide +kernel
theorem dX9_plain_259 : decode cX9_plain 259 = .ok (.if_icmp .ne 6, 3) := by decide +kernel
theorem dX9_plain_262 : decode cX9_plain 262 = .ok (.bipush (-2), 2) := by decide +kernel
theorem dX9_plain_264 : decode cX9_plain 264 = .ok (.ireturn, 1) := by decide +kernel
theorem dX9_plain_265 : decode cX9_plain 265 = .ok (.aload_n 1, 1) := by decide +kernel
theorem dX9_plain_266 : decode cX9_plain 266 = .ok (.getfield 127, 3) := by decide +kernel
theorem dX9_plain_269 : decode cX9_plain 269 = .ok (.aload_n 1, 1) := by decide +kernel
theorem dX9_plain_270 : decode cX9_plain 270 = .ok (.getfield 124, 3) := by decide +kernel
theorem dX9_plain_273 : decode cX9_plain 273 = .ok (.aload_n 1, 1) := by decide +kernel
theorem dX9_plain_274 : decode cX9_plain 274 = .ok (.getfield 69, 3) := by decide +kernel
theorem dX9_plain_277 : decode cX9_plain 277 = .ok (.iastore, 1) := by decide +kernel
theorem dX9_plain_278 : decode cX9_plain 278 = .ok (.aload_n 1, 1) := by decide +kernel
theorem dX9_plain_279 : decode cX9_plain 279 = .ok (.dup, 1) := by decide +kernel
theorem dX9_plain_280 : decode cX9_plain 280 = .ok (.getfield 124, 3) := by decide +kernel
theorem dX9_plain_283 : decode cX9_plain 283 = .ok (.iconst 1, 1) := by decide +kernel
theorem dX9_plain_284 : decode cX9_plain 284 = .ok (.iadd, 1) := by decide +kernel
theorem dX9_plain_285 : decode cX9_plain 285 = .ok (.putfield 124, 3) := by decide +kernel
theorem dX9_plain_288 : decode cX9_plain 288 = .ok (.aload_n 1, 1) := by decide +kernel
theorem dX9_plain_289 : decode cX9_plain 289 = .ok (.iload_n 3, 1) := by decide +kernel
theorem dX9_plain_290 : decode cX9_plain 290 = .ok (.putfield 69, 3) := by decide +kernel
theorem dX9_plain_293 : decode cX9_plain 293 = .ok (.iconst 0, 1) := by decide +kernel
theorem dX9_plain_294 : decode cX9_plain 294 = .ok (.ireturn, 1) := by decide +kernel
theorem dX9_plain_295 : decode cX9_plain 295 = .ok (.aload_n 1, 1) := by decide +kernel
theorem dX9_plain_296 : decode cX9_plain 296 = .ok (.getfield 124, 3) := by decide +kernel
theorem dX9_plain_299 : decode cX9_plain 299 = .ok (.aload_n 1, 1) := by decide +kernel
theorem dX9_plain_300 : decode cX9_plain 300 = .ok (.getfield 121, 3) := by decide +kernel
theorem dX9_plain_303 : decode cX9_plain 303 = .ok (.ifCond .ne 7, 3) := by decide +kernel
theorem dX9_plain_306 : decode cX9_plain 306 = .ok (.iconst 0, 1) := by decide +kernel
theorem dX9_plain_307 : decode cX9_plain 307 = .ok (.goto 14, 3) := by decide +kernel
theorem dX9_plain_310 : decode cX9_plain 310 = .ok (.aload_n 1, 1) := by decide +kernel
theorem dX9_plain_311 : decode cX9_plain 311 = .ok (.getfield 130, 3) := by decide +kernel
theorem dX9_plain_314 : decode cX9_plain 314 = .ok (.aload_n 1, 1) := by decide +kernel
theorem dX9_plain_315 : decode cX9_plain 315 = .ok (.getfield 121, 3) := by decide +kernel
theorem dX9_plain_318 : decode cX9_plain 318 = .ok (.iconst 1, 1) := by decide +kernel
theorem dX9_plain_319 : decode cX9_plain 319 = .ok (.isub, 1) := by decide +kernel
theorem dX9_plain_320 : decode cX9_plain 320 = .ok (.iaload, 1) := by decide +kernel
theorem dX9_plain_321 : decode cX9_plain 321 = .ok (.if_icmp .ne 6, 3) := by decide +kernel
theorem dX9_plain_324 : decode cX9_plain 324 = .ok (.bipush (-2), 2) := by decide +kernel
theorem dX9_plain_326 : decode cX9_plain 326 = .ok (.ireturn, 1) := by decide +kernel
theorem dX9_plain_327 : decode cX9_plain 327 = .ok (.aload_n 1, 1) := by decide +kernel
theorem dX9_plain_328 : decode cX9_plain 328 = .ok (.dup, 1) := by decide +kernel
theorem dX9_plain_329 : decode cX9_plain 329 = .ok (.getfield 124, 3) := by decide +kernel
theorem dX9_plain_332 : decode cX9_plain 332 = .ok (.iconst 1, 1) := by decide +kernel
theorem dX9_plain_333 : decode cX9_plain 333 = .ok (.isub, 1) := by decide +kernel
theorem dX9_plain_334 : decode cX9_plain 334 = .ok (.putfield 124, 3) := by decide +kernel
theorem dX9_plain_337 : decode cX9_plain 337 = .ok (.aload_n 1, 1) := by decide +kernel
theorem dX9_plain_338 : decode cX9_plain 338 = .ok (.aload_n 1, 1) := by decide +kernel
theorem dX9_plain_339 : decode cX9_plain 339 = .ok (.getfield 127, 3) := by decide +kernel
theorem dX9_plain_342 : decode cX9_plain 342 = .ok (.aload_n 1, 1) := by decide +kernel
theorem dX9_plain_343 : decode cX9_plain 343 = .ok (.getfield 124, 3) := by decide +kernel
theorem dX9_plain_346 : decode cX9_plain 346 = .ok (.iaload, 1) := by decide +kernel
theorem dX9_plain_347 : decode cX9_plain 347 = .ok (.putfield 69, 3) := by decide +kernel
theorem dX9_plain_350 : decode cX9_plain 350 = .ok (.iconst 0, 1) := by decide +kernel
theorem dX9_plain_351 : decode cX9_plain 351 = .ok (.ireturn, 1) := by decide +kernel
theorem dX9_plain_352 : decode cX9_plain 352 = .ok (.aload_n 0, 1) := by decide +kernel
theorem dX9_plain_353 : decode cX9_plain 353 = .ok (.aload_n 1, 1) := by decide +kernel
theorem dX9_plain_354 : decode cX9_plain 354 = .ok (.iload_n 2, 1) := by decide +kernel
theorem dX9_plain_355 : decode cX9_plain 355 = .ok (.bipush 12, 2) := by decide +kernel
theorem dX9_plain_357 : decode cX9_plain 357 = .ok (.if_icmp .ne 7, 3) := by decide +kernel
theorem dX9_plain_360 : decode cX9_plain 360 = .ok (.iconst 1, 1) := by decide +kernel
theorem dX9_plain_361 : decode cX9_plain 361 = .ok (.goto 4, 3) := by decide +kernel
theorem dX9_plain_364 : decode cX9_plain 364 = .ok (.iconst 0, 1) := by decide +kernel
theorem dX9_plain_365 : decode cX9_plain 365 = .ok (.iload_n 3, 1) := by decide +kernel
theorem dX9_plain_366 : decode cX9_plain 366 = .ok (.iload 4, 2) := by decide +kernel
theorem dX9_plain_368 : decode cX9_plain 368 = .ok (.iload 5, 2) := by decide +kernel
theorem dX9_plain_370 : decode cX9_plain 370 = .ok (.invokevirtual 133, 3) := by decide +kernel
theorem dX9_plain_373 : decode cX9_plain 373 = .ok (.ireturn, 1) := by decide +kernel
theorem dX9_plain_374 : decode cX9_plain 374 = .ok (.aload 6, 2) := by decide +kernel
theorem dX9_plain_376 : decode cX9_plain 376 = .ok (.iload_n 3, 1) := by decide +kernel
theorem dX9_plain_377 : decode cX9_plain 377 = .ok (.aload_n 0, 1) := by decide +kernel
theorem dX9_plain_378 : decode cX9_plain 378 = .ok (.getfield 36, 3) := by decide +kernel
theorem dX9_plain_381 : decode cX9_plain 381 = .ok (.aload 6, 2) := by decide +kernel
theorem dX9_plain_383 : decode cX9_plain 383 = .ok (.iload 4, 2) := by decide +kernel
theorem dX9_plain_385 : decode cX9_plain 385 = .ok (.laload, 1) := by decide +kernel
theorem dX9_plain_386 : decode cX9_plain 386 = .ok (.invokestatic 137, 3) := by decide +kernel
theorem dX9_plain_389 : decode cX9_plain 389 = .ok (.laload, 1) := by decide +kernel
theorem dX9_plain_390 : decode cX9_plain 390 = .ok (.lastore, 1) := by decide +kernel
theorem dX9_plain_391 : decode cX9_plain 391 = .ok (.iconst 0, 1) := by decide +kernel
theorem dX9_plain_392 : decode cX9_plain 392 = .ok (.ireturn, 1) := by decide +kernel
theorem dX9_plain_393 : decode cX9_plain 393 = .ok (.aload 6, 2) := by decide +kernel
theorem dX9_plain_395 : decode cX9_plain 395 = .ok (.iload_n 3, 1) := by decide +kernel
theorem dX9_plain_396 : decode cX9_plain 396 = .ok (.aload_n 0, 1) := by decide +kernel
theorem dX9_plain_397 : decode cX9_plain 397 = .ok (.getfield 39, 3) := by decide +kernel
theorem dX9_plain_400 : decode cX9_plain 400 = .ok (.aload 6, 2) := by decide +kernel
theorem dX9_plain_402 : decode cX9_plain 402 = .ok (.iload 4, 2) := by decide +kernel
theorem dX9_plain_404 : decode cX9_plain 404 = .ok (.laload, 1) := by decide +kernel
theorem dX9_plain_405 : decode cX9_plain 405 = .ok (.invokestatic 137, 3) := by decide +kernel
theorem dX9_plain_408 : decode cX9_plain 408 = .ok (.laload, 1) := by decide +kernel
theorem dX9_plain_409 : decode cX9_plain 409 = .ok (.lastore, 1) := by decide +kernel
theorem dX9_plain_410 : decode cX9_plain 410 = .ok (.iconst 0, 1) := by decide +kernel
theorem dX9_plain_411 : decode cX9_plain 411 = .ok (.ireturn, 1) := by decide +kernel
theorem dX9_plain_412 : decode cX9_plain 412 = .ok (.aload 6, 2) := by decide +kernel
theorem dX9_plain_414 : decode cX9_plain 414 = .ok (.iload_n 3, 1) := by decide +kernel
theorem dX9_plain_415 : decode cX9_plain 415 = .ok (.aload 6, 2) := by decide +kernel
theorem dX9_plain_417 : decode cX9_plain 417 = .ok (.iload 4, 2) := by decide +kernel
theorem dX9_plain_419 : decode cX9_plain 419 = .ok (.laload, 1) := by decide +kernel
theorem dX9_plain_420 : decode cX9_plain 420 = .ok (.invokestatic 108, 3) := by decide +kernel
theorem dX9_plain_423 : decode cX9_plain 423 = .ok (.ifCond .eq 7, 3) := by decide +kernel
theorem dX9_plain_426 : decode cX9_plain 426 = .ok (.lconst 0, 1) := by decide +kernel
theorem dX9_plain_427 : decode cX9_plain 427 = .ok (.goto 21, 3) := by decide +kernel
theorem dX9_plain_430 : decode cX9_plain 430 = .ok (.aload 6, 2) := by decide +kernel
theorem dX9_plain_432 : decode cX9_plain 432 = .ok (.iload 4, 2) := by decide +kernel
theorem dX9_plain_434 : decode cX9_plain 434 = .ok (.laload, 1) := by decide +kernel
theorem dX9_plain_435 : decode cX9_plain 435 = .ok (.invokestatic 112, 3) := by decide +kernel
theorem dX9_plain_438 : decode cX9_plain 438 = .ok (.ifCond .eq 7, 3) := by decide +kernel
theorem dX9_plain_441 : decode cX9_plain 441 = .ok (.lconst 1, 1) := by decide +kernel
theorem dX9_plain_442 : decode cX9_plain 442 = .ok (.goto 6, 3) := by decide +kernel
theorem dX9_plain_445 : decode cX9_plain 445 = .ok (.ldc2_w 141, 3) := by decide +kernel
theorem dX9_plain_448 : decode cX9_plain 448 = .ok (.lastore, 1) := by decide +kernel
theorem dX9_plain_449 : decode cX9_plain 449 = .ok (.iconst 0, 1) := by decide +kernel
theorem dX9_plain_450 : decode cX9_plain 450 = .ok (.ireturn, 1) := by decide +kernel
theorem dX9_made_0 : decode cX9_made 0 = .ok (.aload_n 0, 1) := by decide +kernel
theorem dX9_made_1 : decode cX9_made 1 = .ok (.getfield 143, 3) := by decide +kernel
theorem dX9_made_4 : decode cX9_made 4 = .ok (.sipush 200, 3) := by decide +kernel
theorem dX9_made_7 : decode cX9_made 7 = .ok (.if_icmp .ne 7, 3) := by decide +kernel
theorem dX9_made_10 : decode cX9_made 10 = .ok (.aload_n 0, 1) := by decide +kernel
theorem dX9_made_11 : decode cX9_made 11 = .ok (.invokevirtual 146, 3) := by decide +kernel
theorem dX9_made_14 : decode cX9_made 14 = .ok (.aload_n 0, 1) := by decide +kernel
theorem dX9_made_15 : decode cX9_made 15 = .ok (.getfield 143, 3) := by decide +kernel
theorem dX9_made_18 : decode cX9_made 18 = .ok (.sipush 200, 3) := by decide +kernel
theorem dX9_made_21 : decode cX9_made 21 = .ok (.if_icmp .ne 6, 3) := by decide +kernel
theorem dX9_made_24 : decode cX9_made 24 = .ok (.bipush (-3), 2) := by decide +kernel
theorem dX9_made_26 : decode cX9_made 26 = .ok (.ireturn, 1) := by decide +kernel
theorem dX9_made_27 : decode cX9_made 27 = .ok (.aload_n 0, 1) := by decide +kernel
theorem dX9_made_28 : decode cX9_made 28 = .ok (.getfield 42, 3) := by decide +kernel
theorem dX9_made_31 : decode cX9_made 31 = .ok (.aload_n 0, 1) := by decide +kernel
theorem dX9_made_32 : decode cX9_made 32 = .ok (.getfield 143, 3) := by decide +kernel
theorem dX9_made_35 : decode cX9_made 35 = .ok (.iload_n 2, 1) := by decide +kernel
theorem dX9_made_36 : decode cX9_made 36 = .ok (.bastore, 1) := by decide +kernel
theorem dX9_made_37 : decode cX9_made 37 = .ok (.aload_n 0, 1) := by decide +kernel
theorem dX9_made_38 : decode cX9_made 38 = .ok (.getfield 36, 3) := by decide +kernel
theorem dX9_made_41 : decode cX9_made 41 = .ok (.aload_n 0, 1) := by decide +kernel
theorem dX9_made_42 : decode cX9_made 42 = .ok (.getfield 143, 3) := by decide +kernel
theorem dX9_made_45 : decode cX9_made 45 = .ok (.aload_n 1, 1) := by decide +kernel
theorem dX9_made_46 : decode cX9_made 46 = .ok (.getfield 105, 3) := by decide +kernel
theorem dX9_made_49 : decode cX9_made 49 = .ok (.iload 4, 2) := by decide +kernel
theorem dX9_made_51 : decode cX9_made 51 = .ok (.laload, 1) := by decide +kernel
theorem dX9_made_52 : decode cX9_made 52 = .ok (.lastore, 1) := by decide +kernel
theorem dX9_made_53 : decode cX9_made 53 = .ok (.aload_n 0, 1) := by decide +kernel
theorem dX9_made_54 : decode cX9_made 54 = .ok (.getfield 39, 3) := by decide +kernel
theorem dX9_made_57 : decode cX9_made 57 = .ok (.aload_n 0, 1) := by decide +kernel
theorem dX9_made_58 : decode cX9_made 58 = .ok (.getfield 143, 3) := by decide +kernel
theorem dX9_made_61 : decode cX9_made 61 = .ok (.iload_n 2, 1) := by decide +kernel
theorem dX9_made_62 : decode cX9_made 62 = .ok (.ifCond .eq 13, 3) := by decide +kernel
theorem dX9_made_65 : decode cX9_made 65 = .ok (.aload_n 1, 1) := by decide +kernel
theorem dX9_made_66 : decode cX9_made 66 = .ok (.getfield 105, 3) := by decide +kernel
theorem dX9_made_69 : decode cX9_made 69 = .ok (.iload 5, 2) := by decide +kernel
theorem dX9_made_71 : decode cX9_made 71 = .ok (.laload, 1) := by decide +kernel
theorem dX9_made_72 : decode cX9_made 72 = .ok (.goto 4, 3) := by decide +kernel
theorem dX9_made_75 : decode cX9_made 75 = .ok (.lconst 0, 1) := by decide +kernel
theorem dX9_made_76 : decode cX9_made 76 = .ok (.lastore, 1) := by decide +kernel
theorem dX9_made_77 : decode cX9_made 77 = .ok (.aload_n 0, 1) := by decide +kernel
theorem dX9_made_78 : decode cX9_made 78 = .ok (.getfield 49, 3) := by decide +kernel
theorem dX9_made_81 : decode cX9_made 81 = .ok (.aload_n 0, 1) := by decide +kernel
theorem dX9_made_82 : decode cX9_made 82 = .ok (.getfield 143, 3) := by decide +kernel
theorem dX9_made_85 : decode cX9_made 85 = .ok (.iconst 0, 1) := by decide +kernel
theorem dX9_made_86 : decode cX9_made 86 = .ok (.iastore, 1) := by decide +kernel
theorem dX9_made_87 : decode cX9_made 87 = .ok (.aload_n 1, 1) := by decide +kernel
theorem dX9_made_88 : decode cX9_made 88 = .ok (.getfield 105, 3) := by decide +kernel
theorem dX9_made_91 : decode cX9_made 91 = .ok (.iload_n 3, 1) := by decide +kernel
theorem dX9_made_92 : decode cX9_made 92 = .ok (.iload_n 2, 1) := by decide +kernel
theorem dX9_made_93 : decode cX9_made 93 = .ok (.ifCond .eq 9, 3) := by decide +kernel
theorem dX9_made_96 : decode cX9_made 96 = .ok (.ldc2_w 62, 3) := by decide +kernel
theorem dX9_made_99 : decode cX9_made 99 = .ok (.goto 6, 3) := by decide +kernel
theorem dX9_made_102 : decode cX9_made 102 = .ok (.ldc2_w 64, 3) := by decide +kernel
theorem dX9_made_105 : decode cX9_made 105 = .ok (.aload_n 0, 1) := by decide +kernel
theorem dX9_made_106 : decode cX9_made 106 = .ok (.getfield 143, 3) := by decide +kernel
theorem dX9_made_109 : decode cX9_made 109 = .ok (.i2l, 1) := by decide +kernel
theorem dX9_made_110 : decode cX9_made 110 = .ok (.ladd, 1) := by decide +kernel
theorem dX9_made_111 : decode cX9_made 111 = .ok (.lastore, 1) := by decide +kernel
theorem dX9_made_112 : decode cX9_made 112 = .ok (.aload_n 0, 1) := by decide +kernel
theorem dX9_made_113 : decode cX9_made 113 = .ok (.dup, 1) := by decide +kernel
theorem dX9_made_114 : decode cX9_made 114 = .ok (.getfield 143, 3) := by decide +kernel
theorem dX9_made_117 : decode cX9_made 117 = .ok (.iconst 1, 1) := by decide +kernel
theorem dX9_made_118 : decode cX9_made 118 = .ok (.iadd, 1) := by decide +kernel
theorem dX9_made_119 : decode cX9_made 119 = .ok (.putfield 143, 3) := by decide +kernel
theorem dX9_made_122 : decode cX9_made 122 = .ok (.iconst 0, 1) := by decide +kernel
theorem dX9_made_123 : decode cX9_made 123 = .ok (.ireturn, 1) := by decide +kernel
theorem dX9_valid_0 : decode cX9_valid 0 = .ok (.iconst 0, 1) := by decide +kernel
theorem dX9_valid_1 : decode cX9_valid 1 = .ok (.istore_n 2, 1) := by decide +kernel
theorem dX9_valid_2 : decode cX9_valid 2 = .ok (.iload_n 2, 1) := by decide +kernel
theorem dX9_valid_3 : decode cX9_valid 3 = .ok (.aload_n 1, 1) := by decide +kernel
theorem dX9_valid_4 : decode cX9_valid 4 = .ok (.getfield 149, 3) := by decide +kernel
theorem dX9_valid_7 : decode cX9_valid 7 = .ok (.if_icmp .ge 32, 3) := by decide +kernel
theorem dX9_valid_10 : decode cX9_valid 10 = .ok (.aload_n 0, 1) := by decide +kernel
theorem dX9_valid_11 : decode cX9_valid 11 = .ok (.getfield 49, 3) := by decide +kernel
theorem dX9_valid_14 : decode cX9_valid 14 = .ok (.aload_n 1, 1) := by decide +kernel
theorem dX9_valid_15 : decode cX9_valid 15 = .ok (.getfield 152, 3) := by decide +kernel
theorem dX9_valid_18 : decode cX9_valid 18 = .ok (.iload_n 2, 1) := by decide +kernel
theorem dX9_valid_19 : decode cX9_valid 19 = .ok (.laload, 1) := by decide +kernel
theorem dX9_valid_20 : decode cX9_valid 20 = .ok (.invokestatic 137, 3) := by decide +kernel
theorem dX9_valid_23 : decode cX9_valid 23 = .ok (.iaload, 1) := by decide +kernel
theorem dX9_valid_24 : decode cX9_valid 24 = .ok (.aload_n 1, 1) := by decide +kernel
theorem dX9_valid_25 : decode cX9_valid 25 = .ok (.getfield 155, 3) := by decide +kernel
theorem dX9_valid_28 : decode cX9_valid 28 = .ok (.if_icmp .le 5, 3) := by decide +kernel
theorem dX9_valid_31 : decode cX9_valid 31 = .ok (.iconst 0, 1) := by decide +kernel
theorem dX9_valid_32 : decode cX9_valid 32 = .ok (.ireturn, 1) := by decide +kernel
theorem dX9_valid_33 : decode cX9_valid 33 = .ok (.iinc 2 1, 3) := by decide +kernel
theorem dX9_valid_36 : decode cX9_valid 36 = .ok (.goto (-34), 3) := by decide +kernel
theorem dX9_valid_39 : decode cX9_valid 39 = .ok (.iconst 1, 1) := by decide +kernel
theorem dX9_valid_40 : decode cX9_valid 40 = .ok (.ireturn, 1) := by decide +kernel
theorem dX9_aborted_0 : decode cX9_aborted 0 = .ok (.aload_n 0, 1) := by decide +kernel
theorem dX9_aborted_1 : decode cX9_aborted 1 = .ok (.dup, 1) := by decide +kernel
theorem dX9_aborted_2 : decode cX9_aborted 2 = .ok (.getfield 158, 3) := by decide +kernel
theorem dX9_aborted_5 : decode cX9_aborted 5 = .ok (.iconst 1, 1) := by decide +kernel
theorem dX9_aborted_6 : decode cX9_aborted 6 = .ok (.iadd, 1) := by decide +kernel
theorem dX9_aborted_7 : decode cX9_aborted 7 = .ok (.putfield 158, 3) := by decide +kernel
theorem dX9_aborted_10 : decode cX9_aborted 10 = .ok (.aload_n 1, 1) := by decide +kernel
theorem dX9_aborted_11 : decode cX9_aborted 11 = .ok (.aload_n 0, 1) := by decide +kernel
theorem dX9_aborted_12 : decode cX9_aborted 12 = .ok (.getfield 161, 3) := by decide +kernel
theorem dX9_aborted_15 : decode cX9_aborted 15 = .ok (.invokevirtual 164, 3) := by decide +kernel
theorem dX9_aborted_18 : decode cX9_aborted 18 = .ok (.iconst 0, 1) := by decide +kernel
theorem dX9_aborted_19 : decode cX9_aborted 19 = .ok (.ireturn, 1) := by decide +kernel
theorem dX9_guarded_0 : decode cX9_guarded 0 = .ok (.iload_n 2, 1) := by decide +kernel
theorem dX9_guarded_1 : decode cX9_guarded 1 = .ok (.tableswitch 263 16 23 #[47, 61, 116, 147, 186, 216, 186, 257], 47) := by decide +kernel
theorem dX9_guarded_48 : decode cX9_guarded 48 = .ok (.aload_n 0, 1) := by decide +kernel
theorem dX9_guarded_49 : decode cX9_guarded 49 = .ok (.aload_n 1, 1) := by decide +kernel
theorem dX9_guarded_50 : decode cX9_guarded 50 = .ok (.iload_n 3, 1) := by decide +kernel
theorem dX9_guarded_51 : decode cX9_guarded 51 = .ok (.aload_n 1, 1) := by decide +kernel
theorem dX9_guarded_52 : decode cX9_guarded 52 = .ok (.getfield 105, 3) := by decide +kernel
theorem dX9_guarded_55 : decode cX9_guarded 55 = .ok (.iload 4, 2) := by decide +kernel
theorem dX9_guarded_57 : decode cX9_guarded 57 = .ok (.laload, 1) := by decide +kernel
theorem dX9_guarded_58 : decode cX9_guarded 58 = .ok (.invokevirtual 168, 3) := by decide +kernel
theorem dX9_guarded_61 : decode cX9_guarded 61 = .ok (.ireturn, 1) := by decide +kernel
theorem dX9_guarded_62 : decode cX9_guarded 62 = .ok (.aload_n 1, 1) := by decide +kernel
theorem dX9_guarded_63 : decode cX9_guarded 63 = .ok (.getfield 172, 3) := by decide +kernel
theorem dX9_guarded_66 : decode cX9_guarded 66 = .ok (.bipush 40, 2) := by decide +kernel
theorem dX9_guarded_68 : decode cX9_guarded 68 = .ok (.if_icmp .ne 6, 3) := by decide +kernel
theorem dX9_guarded_71 : decode cX9_guarded 71 = .ok (.bipush (-5), 2) := by decide +kernel
theorem dX9_guarded_73 : decode cX9_guarded 73 = .ok (.ireturn, 1) := by decide +kernel
theorem dX9_guarded_74 : decode cX9_guarded 74 = .ok (.aload_n 1, 1) := by decide +kernel
theorem dX9_guarded_75 : decode cX9_guarded 75 = .ok (.getfield 175, 3) := by decide +kernel
theorem dX9_guarded_78 : decode cX9_guarded 78 = .ok (.aload_n 1, 1) := by decide +kernel
theorem dX9_guarded_79 : decode cX9_guarded 79 = .ok (.getfield 172, 3) := by decide +kernel
theorem dX9_guarded_82 : decode cX9_guarded 82 = .ok (.aload_n 1, 1) := by decide +kernel
theorem dX9_guarded_83 : decode cX9_guarded 83 = .ok (.getfield 105, 3) := by decide +kernel
theorem dX9_guarded_86 : decode cX9_guarded 86 = .ok (.iload_n 3, 1) := by decide +kernel
theorem dX9_guarded_87 : decode cX9_guarded 87 = .ok (.laload, 1) := by decide +kernel
theorem dX9_guarded_88 : decode cX9_guarded 88 = .ok (.lastore, 1) := by decide +kernel
theorem dX9_guarded_89 : decode cX9_guarded 89 = .ok (.aload_n 1, 1) := by decide +kernel
theorem dX9_guarded_90 : decode cX9_guarded 90 = .ok (.getfield 178, 3) := by decide +kernel
theorem dX9_guarded_93 : decode cX9_guarded 93 = .ok (.aload_n 1, 1) := by decide +kernel
theorem dX9_guarded_94 : decode cX9_guarded 94 = .ok (.getfield 172, 3) := by decide +kernel
theorem dX9_guarded_97 : decode cX9_guarded 97 = .ok (.aload_n 1, 1) := by decide +kernel
theorem dX9_guarded_98 : decode cX9_guarded 98 = .ok (.getfield 105, 3) := by decide +kernel
theorem dX9_guarded_101 : decode cX9_guarded 101 = .ok (.iload 4, 2) := by decide +kernel
theorem dX9_guarded_103 : decode cX9_guarded 103 = .ok (.laload, 1) := by decide +kernel
theorem dX9_guarded_104 : decode cX9_guarded 104 = .ok (.lastore, 1) := by decide +kernel
theorem dX9_guarded_105 : decode cX9_guarded 105 = .ok (.aload_n 1, 1) := by decide +kernel
theorem dX9_guarded_106 : decode cX9_guarded 106 = .ok (.dup, 1) := by decide +kernel
theorem dX9_guarded_107 : decode cX9_guarded 107 = .ok (.getfield 172, 3) := by decide +kernel
theorem dX9_guarded_110 : decode cX9_guarded 110 = .ok (.iconst 1, 1) := by decide +kernel
theorem dX9_guarded_111 : decode cX9_guarded 111 = .ok (.iadd, 1) := by decide +kernel
theorem dX9_guarded_112 : decode cX9_guarded 112 = .ok (.putfield 172, 3) := by decide +kernel
theorem dX9_guarded_115 : decode cX9_guarded 115 = .ok (.iconst 0, 1) := by decide +kernel
theorem dX9_guarded_116 : decode cX9_guarded 116 = .ok (.ireturn, 1) := by decide +kernel
theorem dX9_guarded_117 : decode cX9_guarded 117 = .ok (.aload_n 1, 1) := by decide +kernel
theorem dX9_guarded_118 : decode cX9_guarded 118 = .ok (.getfield 121, 3) := by decide +kernel
theorem dX9_guarded_121 : decode cX9_guarded 121 = .ok (.bipush 24, 2) := by decide +kernel
theorem dX9_guarded_123 : decode cX9_guarded 123 = .ok (.if_icmp .ne 6, 3) := by decide +kernel
theorem dX9_guarded_126 : decode cX9_guarded 126 = .ok (.bipush (-4), 2) := by decide +kernel
theorem dX9_guarded_128 : decode cX9_guarded 128 = .ok (.ireturn, 1) := by decide +kernel
theorem dX9_guarded_129 : decode cX9_guarded 129 = .ok (.aload_n 1, 1) := by decide +kernel
theorem dX9_guarded_130 : decode cX9_guarded 130 = .ok (.aload_n 0, 1) := by decide +kernel
theorem dX9_guarded_131 : decode cX9_guarded 131 = .ok (.getfield 161, 3) := by decide +kernel
theorem dX9_guarded_134 : decode cX9_guarded 134 = .ok (.putfield 155, 3) := by decide +kernel
theorem dX9_guarded_137 : decode cX9_guarded 137 = .ok (.aload_n 1, 1) := by decide +kernel
theorem dX9_guarded_138 : decode cX9_guarded 138 = .ok (.iconst 0, 1) := by decide +kernel
theorem dX9_guarded_139 : decode cX9_guarded 139 = .ok (.aload_n 1, 1) := by decide +kernel
theorem dX9_guarded_140 : decode cX9_guarded 140 = .ok (.getfield 69, 3) := by decide +kernel
theorem dX9_guarded_143 : decode cX9_guarded 143 = .ok (.invokevirtual 181, 3) := by decide +kernel
theorem dX9_guarded_146 : decode cX9_guarded 146 = .ok (.iconst 0, 1) := by decide +kernel
theorem dX9_guarded_147 : decode cX9_guarded 147 = .ok (.ireturn, 1) := by decide +kernel
theorem dX9_guarded_148 : decode cX9_guarded 148 = .ok (.aload_n 1, 1) := by decide +kernel
theorem dX9_guarded_149 : decode cX9_guarded 149 = .ok (.getfield 184, 3) := by decide +kernel
theorem dX9_guarded_152 : decode cX9_guarded 152 = .ok (.aload_n 1, 1) := by decide +kernel
theorem dX9_guarded_153 : decode cX9_guarded 153 = .ok (.getfield 121, 3) := by decide +kernel
theorem dX9_guarded_156 : decode cX9_guarded 156 = .ok (.iconst 1, 1) := by decide +kernel
theorem dX9_guarded_157 : decode cX9_guarded 157 = .ok (.isub, 1) := by decide +kernel
theorem dX9_guarded_158 : decode cX9_guarded 158 = .ok (.iaload, 1) := by decide +kernel
theorem dX9_guarded_159 : decode cX9_guarded 159 = .ok (.ifCond .eq 6, 3) := by decide +kernel
theorem dX9_guarded_162 : decode cX9_guarded 162 = .ok (.bipush (-4), 2) := by decide +kernel
theorem dX9_guarded_164 : decode cX9_guarded 164 = .ok (.ireturn, 1) := by decide +kernel
theorem dX9_guarded_165 : decode cX9_guarded 165 = .ok (.aload_n 0, 1) := by decide +kernel
theorem dX9_guarded_166 : decode cX9_guarded 166 = .ok (.aload_n 1, 1) := by decide +kernel
theorem dX9_guarded_167 : decode cX9_guarded 167 = .ok (.invokevirtual 187, 3) := by decide +kernel
theorem dX9_guarded_170 : decode cX9_guarded 170 = .ok (.ifCond .eq 11, 3) := by decide +kernel
theorem dX9_guarded_173 : decode cX9_guarded 173 = .ok (.aload_n 0, 1) := by decide +kernel
theorem dX9_guarded_174 : decode cX9_guarded 174 = .ok (.aload_n 1, 1) := by decide +kernel
theorem dX9_guarded_175 : decode cX9_guarded 175 = .ok (.invokevirtual 191, 3) := by decide +kernel
theorem dX9_guarded_178 : decode cX9_guarded 178 = .ok (.goto 8, 3) := by decide +kernel
theorem dX9_guarded_181 : decode cX9_guarded 181 = .ok (.aload_n 0, 1) := by decide +kernel
theorem dX9_guarded_182 : decode cX9_guarded 182 = .ok (.aload_n 1, 1) := by decide +kernel
theorem dX9_guarded_183 : decode cX9_guarded 183 = .ok (.invokevirtual 195, 3) := by decide +kernel
theorem dX9_guarded_186 : decode cX9_guarded 186 = .ok (.ireturn, 1) := by decide +kernel
theorem dX9_guarded_187 : decode cX9_guarded 187 = .ok (.aload_n 1, 1) := by decide +kernel
theorem dX9_guarded_188 : decode cX9_guarded 188 = .ok (.getfield 121, 3) := by decide +kernel
theorem dX9_guarded_191 : decode cX9_guarded 191 = .ok (.bipush 24, 2) := by decide +kernel
theorem dX9_guarded_193 : decode cX9_guarded 193 = .ok (.if_icmp .ne 6, 3) := by decide +kernel
theorem dX9_guarded_196 : decode cX9_guarded 196 = .ok (.bipush (-4), 2) := by decide +kernel
theorem dX9_guarded_198 : decode cX9_guarded 198 = .ok (.ireturn, 1) := by decide +kernel
theorem dX9_guarded_199 : decode cX9_guarded 199 = .ok (.aload_n 1, 1) := by decide +kernel
theorem dX9_guarded_200 : decode cX9_guarded 200 = .ok (.iload_n 2, 1) := by decide +kernel
theorem dX9_guarded_201 : decode cX9_guarded 201 = .ok (.bipush 20, 2) := by decide +kernel
theorem dX9_guarded_203 : decode cX9_guarded 203 = .ok (.if_icmp .ne 7, 3) := by decide +kernel
theorem dX9_guarded_206 : decode cX9_guarded 206 = .ok (.iconst 1, 1) := by decide +kernel
theorem dX9_guarded_207 : decode cX9_guarded 207 = .ok (.goto 4, 3) := by decide +kernel
theorem dX9_guarded_210 : decode cX9_guarded 210 = .ok (.iconst 2, 1) := by decide +kernel
theorem dX9_guarded_211 : decode cX9_guarded 211 = .ok (.iload_n 3, 1) := by decide +kernel
theorem dX9_guarded_212 : decode cX9_guarded 212 = .ok (.invokevirtual 181, 3) := by decide +kernel
theorem dX9_guarded_215 : decode cX9_guarded 215 = .ok (.iconst 0, 1) := by decide +kernel
theorem dX9_guarded_216 : decode cX9_guarded 216 = .ok (.ireturn, 1) := by decide +kernel
theorem dX9_guarded_217 : decode cX9_guarded 217 = .ok (.aload_n 1, 1) := by decide +kernel
theorem dX9_guarded_218 : decode cX9_guarded 218 = .ok (.getfield 121, 3) := by decide +kernel
theorem dX9_guarded_221 : decode cX9_guarded 221 = .ok (.ifCond .eq 17, 3) := by decide +kernel
theorem dX9_guarded_224 : decode cX9_guarded 224 = .ok (.aload_n 1, 1) := by decide +kernel
theorem dX9_guarded_225 : decode cX9_guarded 225 = .ok (.getfield 184, 3) := by decide +kernel
theorem dX9_guarded_228 : decode cX9_guarded 228 = .ok (.aload_n 1, 1) := by decide +kernel
theorem dX9_guarded_229 : decode cX9_guarded 229 = .ok (.getfield 121, 3) := by decide +kernel
theorem dX9_guarded_232 : decode cX9_guarded 232 = .ok (.iconst 1, 1) := by decide +kernel
theorem dX9_guarded_233 : decode cX9_guarded 233 = .ok (.isub, 1) := by decide +kernel
theorem dX9_guarded_234 : decode cX9_guarded 234 = .ok (.iaload, 1) := by decide +kernel
theorem dX9_guarded_235 : decode cX9_guarded 235 = .ok (.ifCond .ne 6, 3) := by decide +kernel
theorem dX9_guarded_238 : decode cX9_guarded 238 = .ok (.bipush (-4), 2) := by decide +kernel
theorem dX9_guarded_240 : decode cX9_guarded 240 = .ok (.ireturn, 1) := by decide +kernel
theorem dX9_guarded_241 : decode cX9_guarded 241 = .ok (.aload_n 1, 1) := by decide +kernel
theorem dX9_guarded_242 : decode cX9_guarded 242 = .ok (.dup, 1) := by decide +kernel
theorem dX9_guarded_243 : decode cX9_guarded 243 = .ok (.getfield 121, 3) := by decide +kernel
theorem dX9_guarded_246 : decode cX9_guarded 246 = .ok (.iconst 1, 1) := by decide +kernel
theorem dX9_guarded_247 : decode cX9_guarded 247 = .ok (.isub, 1) := by decide +kernel
theorem dX9_guarded_248 : decode cX9_guarded 248 = .ok (.putfield 121, 3) := by decide +kernel
theorem dX9_guarded_251 : decode cX9_guarded 251 = .ok (.aload_n 1, 1) := by decide +kernel
theorem dX9_guarded_252 : decode cX9_guarded 252 = .ok (.iload_n 3, 1) := by decide +kernel
theorem dX9_guarded_253 : decode cX9_guarded 253 = .ok (.putfield 69, 3) := by decide +kernel
theorem dX9_guarded_256 : decode cX9_guarded 256 = .ok (.iconst 0, 1) := by decide +kernel
theorem dX9_guarded_257 : decode cX9_guarded 257 = .ok (.ireturn, 1) := by decide +kernel
theorem dX9_guarded_258 : decode cX9_guarded 258 = .ok (.aload_n 0, 1) := by decide +kernel
theorem dX9_guarded_259 : decode cX9_guarded 259 = .ok (.aload_n 1, 1) := by decide +kernel
theorem dX9_guarded_260 : decode cX9_guarded 260 = .ok (.invokevirtual 198, 3) := by decide +kernel
theorem dX9_guarded_263 : decode cX9_guarded 263 = .ok (.ireturn, 1) := by decide +kernel
theorem dX9_guarded_264 : decode cX9_guarded 264 = .ok (.aload_n 0, 1) := by decide +kernel
theorem dX9_guarded_265 : decode cX9_guarded 265 = .ok (.aload_n 1, 1) := by decide +kernel
theorem dX9_guarded_266 : decode cX9_guarded 266 = .ok (.aload_n 1, 1) := by decide +kernel
theorem dX9_guarded_267 : decode cX9_guarded 267 = .ok (.getfield 105, 3) := by decide +kernel
theorem dX9_guarded_270 : decode cX9_guarded 270 = .ok (.iload_n 3, 1) := by decide +kernel
theorem dX9_guarded_271 : decode cX9_guarded 271 = .ok (.laload, 1) := by decide +kernel
theorem dX9_guarded_272 : decode cX9_guarded 272 = .ok (.l2i, 1) := by decide +kernel
theorem dX9_guarded_273 : decode cX9_guarded 273 = .ok (.invokevirtual 201, 3) := by decide +kernel
theorem dX9_guarded_276 : decode cX9_guarded 276 = .ok (.ireturn, 1) := by decide +kernel
theorem dX9_reading_0 : decode cX9_reading 0 = .ok (.aload_n 1, 1) := by decide +kernel
theorem dX9_reading_1 : decode cX9_reading 1 = .ok (.getfield 172, 3) := by decide +kernel
theorem dX9_reading_4 : decode cX9_reading 4 = .ok (.iconst 1, 1) := by decide +kernel
theorem dX9_reading_5 : decode cX9_reading 5 = .ok (.isub, 1) := by decide +kernel
theorem dX9_reading_6 : decode cX9_reading 6 = .ok (.istore 5, 2) := by decide +kernel
theorem dX9_reading_8 : decode cX9_reading 8 = .ok (.iload 5, 2) := by decide +kernel
theorem dX9_reading_10 : decode cX9_reading 10 = .ok (.ifCond .lt 39, 3) := by decide +kernel
theorem dX9_reading_13 : decode cX9_reading 13 = .ok (.aload_n 1, 1) := by decide +kernel
theorem dX9_reading_14 : decode cX9_reading 14 = .ok (.getfield 175, 3) := by decide +kernel
theorem dX9_reading_17 : decode cX9_reading 17 = .ok (.iload 5, 2) := by decide +kernel
theorem dX9_reading_19 : decode cX9_reading 19 = .ok (.laload, 1) := by decide +kernel
theorem dX9_reading_20 : decode cX9_reading 20 = .ok (.lload_n 3, 1) := by decide +kernel
theorem dX9_reading_21 : decode cX9_reading 21 = .ok (.lcmp, 1) := by decide +kernel
theorem dX9_reading_22 : decode cX9_reading 22 = .ok (.ifCond .eq 6, 3) := by decide +kernel
theorem dX9_reading_25 : decode cX9_reading 25 = .ok (.goto 18, 3) := by decide +kernel
theorem dX9_reading_28 : decode cX9_reading 28 = .ok (.aload_n 1, 1) := by decide +kernel
theorem dX9_reading_29 : decode cX9_reading 29 = .ok (.getfield 105, 3) := by decide +kernel
theorem dX9_reading_32 : decode cX9_reading 32 = .ok (.iload_n 2, 1) := by decide +kernel
theorem dX9_reading_33 : decode cX9_reading 33 = .ok (.aload_n 1, 1) := by decide +kernel
theorem dX9_reading_34 : decode cX9_reading 34 = .ok (.getfield 178, 3) := by decide +kernel
theorem dX9_reading_37 : decode cX9_reading 37 = .ok (.iload 5, 2) := by decide +kernel
theorem dX9_reading_39 : decode cX9_reading 39 = .ok (.laload, 1) := by decide +kernel
theorem dX9_reading_40 : decode cX9_reading 40 = .ok (.lastore, 1) := by decide +kernel
theorem dX9_reading_41 : decode cX9_reading 41 = .ok (.iconst 0, 1) := by decide +kernel
theorem dX9_reading_42 : decode cX9_reading 42 = .ok (.ireturn, 1) := by decide +kernel
theorem dX9_reading_43 : decode cX9_reading 43 = .ok (.iinc 5 (-1), 3) := by decide +kernel
theorem dX9_reading_46 : decode cX9_reading 46 = .ok (.goto (-38), 3) := by decide +kernel
theorem dX9_reading_49 : decode cX9_reading 49 = .ok (.aload_n 0, 1) := by decide +kernel
theorem dX9_reading_50 : decode cX9_reading 50 = .ok (.getfield 49, 3) := by decide +kernel
theorem dX9_reading_53 : decode cX9_reading 53 = .ok (.lload_n 3, 1) := by decide +kernel
theorem dX9_reading_54 : decode cX9_reading 54 = .ok (.invokestatic 137, 3) := by decide +kernel
theorem dX9_reading_57 : decode cX9_reading 57 = .ok (.iaload, 1) := by decide +kernel
theorem dX9_reading_58 : decode cX9_reading 58 = .ok (.aload_n 1, 1) := by decide +kernel
theorem dX9_reading_59 : decode cX9_reading 59 = .ok (.getfield 155, 3) := by decide +kernel
theorem dX9_reading_62 : decode cX9_reading 62 = .ok (.if_icmp .le 9, 3) := by decide +kernel
theorem dX9_reading_65 : decode cX9_reading 65 = .ok (.aload_n 0, 1) := by decide +kernel
theorem dX9_reading_66 : decode cX9_reading 66 = .ok (.aload_n 1, 1) := by decide +kernel
theorem dX9_reading_67 : decode cX9_reading 67 = .ok (.invokevirtual 195, 3) := by decide +kernel
theorem dX9_reading_70 : decode cX9_reading 70 = .ok (.ireturn, 1) := by decide +kernel
theorem dX9_reading_71 : decode cX9_reading 71 = .ok (.aload_n 1, 1) := by decide +kernel
theorem dX9_reading_72 : decode cX9_reading 72 = .ok (.lload_n 3, 1) := by decide +kernel
theorem dX9_reading_73 : decode cX9_reading 73 = .ok (.invokevirtual 205, 3) := by decide +kernel
theorem dX9_reading_76 : decode cX9_reading 76 = .ok (.ifCond .ne 35, 3) := by decide +kernel
theorem dX9_reading_79 : decode cX9_reading 79 = .ok (.aload_n 1, 1) := by decide +kernel
theorem dX9_reading_80 : decode cX9_reading 80 = .ok (.getfield 149, 3) := by decide +kernel
theorem dX9_reading_83 : decode cX9_reading 83 = .ok (.bipush 40, 2) := by decide +kernel
theorem dX9_reading_85 : decode cX9_reading 85 = .ok (.if_icmp .ne 6, 3) := by decide +kernel
theorem dX9_reading_88 : decode cX9_reading 88 = .ok (.bipush (-5), 2) := by decide +kernel
theorem dX9_reading_90 : decode cX9_reading 90 = .ok (.ireturn, 1) := by decide +kernel
theorem dX9_reading_91 : decode cX9_reading 91 = .ok (.aload_n 1, 1) := by decide +kernel
theorem dX9_reading_92 : decode cX9_reading 92 = .ok (.getfield 152, 3) := by decide +kernel
theorem dX9_reading_95 : decode cX9_reading 95 = .ok (.aload_n 1, 1) := by decide +kernel
theorem dX9_reading_96 : decode cX9_reading 96 = .ok (.getfield 149, 3) := by decide +kernel
theorem dX9_reading_99 : decode cX9_reading 99 = .ok (.lload_n 3, 1) := by decide +kernel
theorem dX9_reading_100 : decode cX9_reading 100 = .ok (.lastore, 1) := by decide +kernel
theorem dX9_reading_101 : decode cX9_reading 101 = .ok (.aload_n 1, 1) := by decide +kernel
theorem dX9_reading_102 : decode cX9_reading 102 = .ok (.dup, 1) := by decide +kernel
theorem dX9_reading_103 : decode cX9_reading 103 = .ok (.getfield 149, 3) := by decide +kernel
theorem dX9_reading_106 : decode cX9_reading 106 = .ok (.iconst 1, 1) := by decide +kernel
theorem dX9_reading_107 : decode cX9_reading 107 = .ok (.iadd, 1) := by decide +kernel
theorem dX9_reading_108 : decode cX9_reading 108 = .ok (.putfield 149, 3) := by decide +kernel
theorem dX9_reading_111 : decode cX9_reading 111 = .ok (.aload_n 1, 1) := by decide +kernel
theorem dX9_reading_112 : decode cX9_reading 112 = .ok (.getfield 105, 3) := by decide +kernel
theorem dX9_reading_115 : decode cX9_reading 115 = .ok (.iload_n 2, 1) := by decide +kernel
theorem dX9_reading_116 : decode cX9_reading 116 = .ok (.aload_n 0, 1) := by decide +kernel
theorem dX9_reading_117 : decode cX9_reading 117 = .ok (.getfield 36, 3) := by decide +kernel
theorem dX9_reading_120 : decode cX9_reading 120 = .ok (.lload_n 3, 1) := by decide +kernel
theorem dX9_reading_121 : decode cX9_reading 121 = .ok (.invokestatic 137, 3) := by decide +kernel
theorem dX9_reading_124 : decode cX9_reading 124 = .ok (.laload, 1) := by decide +kernel
theorem dX9_reading_125 : decode cX9_reading 125 = .ok (.lastore, 1) := by decide +kernel
theorem dX9_reading_126 : decode cX9_reading 126 = .ok (.iconst 0, 1) := by decide +kernel
theorem dX9_reading_127 : decode cX9_reading 127 = .ok (.ireturn, 1) := by decide +kernel
theorem dX9_committed_0 : decode cX9_committed 0 = .ok (.aload_n 1, 1) := by decide +kernel
theorem dX9_committed_1 : decode cX9_committed 1 = .ok (.dup, 1) := by decide +kernel
theorem dX9_committed_2 : decode cX9_committed 2 = .ok (.getfield 121, 3) := by decide +kernel
theorem dX9_committed_5 : decode cX9_committed 5 = .ok (.iconst 1, 1) := by decide +kernel
theorem dX9_committed_6 : decode cX9_committed 6 = .ok (.isub, 1) := by decide +kernel
theorem dX9_committed_7 : decode cX9_committed 7 = .ok (.putfield 121, 3) := by decide +kernel
theorem dX9_committed_10 : decode cX9_committed 10 = .ok (.aload_n 1, 1) := by decide +kernel
theorem dX9_committed_11 : decode cX9_committed 11 = .ok (.getfield 172, 3) := by decide +kernel
theorem dX9_committed_14 : decode cX9_committed 14 = .ok (.istore_n 2, 1) := by decide +kernel
theorem dX9_committed_15 : decode cX9_committed 15 = .ok (.aload_n 1, 1) := by decide +kernel
theorem dX9_committed_16 : decode cX9_committed 16 = .ok (.iconst 0, 1) := by decide +kernel
theorem dX9_committed_17 : decode cX9_committed 17 = .ok (.putfield 149, 3) := by decide +kernel
theorem dX9_committed_20 : decode cX9_committed 20 = .ok (.aload_n 1, 1) := by decide +kernel
theorem dX9_committed_21 : decode cX9_committed 21 = .ok (.iconst 0, 1) := by decide +kernel
theorem dX9_committed_22 : decode cX9_committed 22 = .ok (.putfield 172, 3) := by decide +kernel
theorem dX9_committed_25 : decode cX9_committed 25 = .ok (.iload_n 2, 1) := by decide +kernel
theorem dX9_committed_26 : decode cX9_committed 26 = .ok (.ifCond .ne 5, 3) := by decide +kernel
theorem dX9_committed_29 : decode cX9_committed 29 = .ok (.iconst 0, 1) := by decide +kernel
theorem dX9_committed_30 : decode cX9_committed 30 = .ok (.ireturn, 1) := by decide +kernel
theorem dX9_committed_31 : decode cX9_committed 31 = .ok (.aload_n 0, 1) := by decide +kernel
theorem dX9_committed_32 : decode cX9_committed 32 = .ok (.dup, 1) := by decide +kernel
theorem dX9_committed_33 : decode cX9_committed 33 = .ok (.getfield 161, 3) := by decide +kernel
theorem dX9_committed_36 : decode cX9_committed 36 = .ok (.iconst 1, 1) := by decide +kernel
theorem dX9_committed_37 : decode cX9_committed 37 = .ok (.iadd, 1) := by decide +kernel
theorem dX9_committed_38 : decode cX9_committed 38 = .ok (.putfield 161, 3) := by decide +kernel
theorem dX9_committed_41 : decode cX9_committed 41 = .ok (.iconst 0, 1) := by decide +kernel
theorem dX9_committed_42 : decode cX9_committed 42 = .ok (.istore_n 3, 1) := by decide +kernel
theorem dX9_committed_43 : decode cX9_committed 43 = .ok (.iload_n 3, 1) := by decide +kernel
theorem dX9_committed_44 : decode cX9_committed 44 = .ok (.iload_n 2, 1) := by decide +kernel
theorem dX9_committed_45 : decode cX9_committed 45 = .ok (.if_icmp .ge 47, 3) := by decide +kernel
theorem dX9_committed_48 : decode cX9_committed 48 = .ok (.aload_n 0, 1) := by decide +kernel
theorem dX9_committed_49 : decode cX9_committed 49 = .ok (.getfield 36, 3) := by decide +kernel
theorem dX9_committed_52 : decode cX9_committed 52 = .ok (.aload_n 1, 1) := by decide +kernel
theorem dX9_committed_53 : decode cX9_committed 53 = .ok (.getfield 175, 3) := by decide +kernel
theorem dX9_committed_56 : decode cX9_committed 56 = .ok (.iload_n 3, 1) := by decide +kernel
theorem dX9_committed_57 : decode cX9_committed 57 = .ok (.laload, 1) := by decide +kernel
theorem dX9_committed_58 : decode cX9_committed 58 = .ok (.invokestatic 137, 3) := by decide +kernel
theorem dX9_committed_61 : decode cX9_committed 61 = .ok (.aload_n 1, 1) := by decide +kernel
theorem dX9_committed_62 : decode cX9_committed 62 = .ok (.getfield 178, 3) := by decide +kernel
theorem dX9_committed_65 : decode cX9_committed 65 = .ok (.iload_n 3, 1) := by decide +kernel
theorem dX9_committed_66 : decode cX9_committed 66 = .ok (.laload, 1) := by decide +kernel
theorem dX9_committed_67 : decode cX9_committed 67 = .ok (.lastore, 1) := by decide +kernel
theorem dX9_committed_68 : decode cX9_committed 68 = .ok (.aload_n 0, 1) := by decide +kernel
theorem dX9_committed_69 : decode cX9_committed 69 = .ok (.getfield 49, 3) := by decide +kernel
theorem dX9_committed_72 : decode cX9_committed 72 = .ok (.aload_n 1, 1) := by decide +kernel
theorem dX9_committed_73 : decode cX9_committed 73 = .ok (.getfield 175, 3) := by decide +kernel
theorem dX9_committed_76 : decode cX9_committed 76 = .ok (.iload_n 3, 1) := by decide +kernel
theorem dX9_committed_77 : decode cX9_committed 77 = .ok (.laload, 1) := by decide +kernel
theorem dX9_committed_78 : decode cX9_committed 78 = .ok (.invokestatic 137, 3) := by decide +kernel
theorem dX9_committed_81 : decode cX9_committed 81 = .ok (.aload_n 0, 1) := by decide +kernel
theorem dX9_committed_82 : decode cX9_committed 82 = .ok (.getfield 161, 3) := by decide +kernel
theorem dX9_committed_85 : decode cX9_committed 85 = .ok (.iastore, 1) := by decide +kernel
theorem dX9_committed_86 : decode cX9_committed 86 = .ok (.iinc 3 1, 3) := by decide +kernel
theorem dX9_committed_89 : decode cX9_committed 89 = .ok (.goto (-46), 3) := by decide +kernel
theorem dX9_committed_92 : decode cX9_committed 92 = .ok (.iconst 0, 1) := by decide +kernel
theorem dX9_committed_93 : decode cX9_committed 93 = .ok (.istore_n 3, 1) := by decide +kernel
theorem dX9_committed_94 : decode cX9_committed 94 = .ok (.iload_n 3, 1) := by decide +kernel
theorem dX9_committed_95 : decode cX9_committed 95 = .ok (.aload_n 0, 1) := by decide +kernel
theorem dX9_committed_96 : decode cX9_committed 96 = .ok (.getfield 7, 3) := by decide +kernel
theorem dX9_committed_99 : decode cX9_committed 99 = .ok (.if_icmp .ge 78, 3) := by decide +kernel
theorem dX9_committed_102 : decode cX9_committed 102 = .ok (.aload_n 0, 1) := by decide +kernel
theorem dX9_committed_103 : decode cX9_committed 103 = .ok (.getfield 28, 3) := by decide +kernel
theorem dX9_committed_106 : decode cX9_committed 106 = .ok (.iload_n 3, 1) := by decide +kernel
theorem dX9_committed_107 : decode cX9_committed 107 = .ok (.aaload, 1) := by decide +kernel
theorem dX9_committed_108 : decode cX9_committed 108 = .ok (.astore 4, 2) := by decide +kernel
theorem dX9_committed_110 : decode cX9_committed 110 = .ok (.aload 4, 2) := by decide +kernel
theorem dX9_committed_112 : decode cX9_committed 112 = .ok (.getfield 208, 3) := by decide +kernel
theorem dX9_committed_115 : decode cX9_committed 115 = .ok (.iconst 2, 1) := by decide +kernel
theorem dX9_committed_116 : decode cX9_committed 116 = .ok (.if_icmp .eq 6, 3) := by decide +kernel
theorem dX9_committed_119 : decode cX9_committed 119 = .ok (.goto 52, 3) := by decide +kernel
theorem dX9_committed_122 : decode cX9_committed 122 = .ok (.iconst 0, 1) := by decide +kernel
theorem dX9_committed_123 : decode cX9_committed 123 = .ok (.istore 5, 2) := by decide +kernel
theorem dX9_committed_125 : decode cX9_committed 125 = .ok (.iconst 0, 1) := by decide +kernel
theorem dX9_committed_126 : decode cX9_committed 126 = .ok (.istore 6, 2) := by decide +kernel
theorem dX9_committed_128 : decode cX9_committed 128 = .ok (.iload 6, 2) := by decide +kernel
theorem dX9_committed_130 : decode cX9_committed 130 = .ok (.iload_n 2, 1) := by decide +kernel
theorem dX9_committed_131 : decode cX9_committed 131 = .ok (.if_icmp .ge 26, 3) := by decide +kernel
theorem dX9_committed_134 : decode cX9_committed 134 = .ok (.iload 5, 2) := by decide +kernel
theorem dX9_committed_136 : decode cX9_committed 136 = .ok (.aload 4, 2) := by decide +kernel
theorem dX9_committed_138 : decode cX9_committed 138 = .ok (.aload_n 1, 1) := by decide +kernel
theorem dX9_committed_139 : decode cX9_committed 139 = .ok (.getfield 175, 3) := by decide +kernel
theorem dX9_committed_142 : decode cX9_committed 142 = .ok (.iload 6, 2) := by decide +kernel
theorem dX9_committed_144 : decode cX9_committed 144 = .ok (.laload, 1) := by decide +kernel
theorem dX9_committed_145 : decode cX9_committed 145 = .ok (.invokevirtual 205, 3) := by decide +kernel
theorem dX9_committed_148 : decode cX9_committed 148 = .ok (.ior, 1) := by decide +kernel
theorem dX9_committed_149 : decode cX9_committed 149 = .ok (.istore 5, 2) := by decide +kernel
theorem dX9_committed_151 : decode cX9_committed 151 = .ok (.iinc 6 1, 3) := by decide +kernel
theorem dX9_committed_154 : decode cX9_committed 154 = .ok (.goto (-26), 3) := by decide +kernel
theorem dX9_committed_157 : decode cX9_committed 157 = .ok (.iload 5, 2) := by decide +kernel
theorem dX9_committed_159 : decode cX9_committed 159 = .ok (.ifCond .eq 12, 3) := by decide +kernel
theorem dX9_committed_162 : decode cX9_committed 162 = .ok (.aload 4, 2) := by decide +kernel
theorem dX9_committed_164 : decode cX9_committed 164 = .ok (.aload_n 0, 1) := by decide +kernel
theorem dX9_committed_165 : decode cX9_committed 165 = .ok (.getfield 161, 3) := by decide +kernel
theorem dX9_committed_168 : decode cX9_committed 168 = .ok (.invokevirtual 164, 3) := by decide +kernel
theorem dX9_committed_171 : decode cX9_committed 171 = .ok (.iinc 3 1, 3) := by decide +kernel
theorem dX9_committed_174 : decode cX9_committed 174 = .ok (.goto (-80), 3) := by decide +kernel
theorem dX9_committed_177 : decode cX9_committed 177 = .ok (.iconst 0, 1) := by decide +kernel
theorem dX9_committed_178 : decode cX9_committed 178 = .ok (.ireturn, 1) := by decide +kernel
theorem dX9_retried_0 : decode cX9_retried 0 = .ok (.aload_n 1, 1) := by decide +kernel
theorem dX9_retried_1 : decode cX9_retried 1 = .ok (.getfield 121, 3) := by decide +kernel
theorem dX9_retried_4 : decode cX9_retried 4 = .ok (.iconst 1, 1) := by decide +kernel
theorem dX9_retried_5 : decode cX9_retried 5 = .ok (.isub, 1) := by decide +kernel
theorem dX9_retried_6 : decode cX9_retried 6 = .ok (.istore_n 2, 1) := by decide +kernel
theorem dX9_retried_7 : decode cX9_retried 7 = .ok (.aload_n 1, 1) := by decide +kernel
theorem dX9_retried_8 : decode cX9_retried 8 = .ok (.getfield 184, 3) := by decide +kernel
theorem dX9_retried_11 : decode cX9_retried 11 = .ok (.iload_n 2, 1) := by decide +kernel
theorem dX9_retried_12 : decode cX9_retried 12 = .ok (.iaload, 1) := by decide +kernel
theorem dX9_retried_13 : decode cX9_retried 13 = .ok (.iconst 2, 1) := by decide +kernel
theorem dX9_retried_14 : decode cX9_retried 14 = .ok (.if_icmp .ne 9, 3) := by decide +kernel
theorem dX9_retried_17 : decode cX9_retried 17 = .ok (.iinc 2 (-1), 3) := by decide +kernel
theorem dX9_retried_20 : decode cX9_retried 20 = .ok (.goto (-13), 3) := by decide +kernel
theorem dX9_retried_23 : decode cX9_retried 23 = .ok (.aload_n 1, 1) := by decide +kernel
theorem dX9_retried_24 : decode cX9_retried 24 = .ok (.getfield 184, 3) := by decide +kernel
theorem dX9_retried_27 : decode cX9_retried 27 = .ok (.iload_n 2, 1) := by decide +kernel
theorem dX9_retried_28 : decode cX9_retried 28 = .ok (.iaload, 1) := by decide +kernel
theorem dX9_retried_29 : decode cX9_retried 29 = .ok (.iconst 1, 1) := by decide +kernel
theorem dX9_retried_30 : decode cX9_retried 30 = .ok (.if_icmp .ne 11, 3) := by decide +kernel
theorem dX9_retried_33 : decode cX9_retried 33 = .ok (.aload_n 1, 1) := by decide +kernel
theorem dX9_retried_34 : decode cX9_retried 34 = .ok (.iload_n 2, 1) := by decide +kernel
theorem dX9_retried_35 : decode cX9_retried 35 = .ok (.invokevirtual 211, 3) := by decide +kernel
theorem dX9_retried_38 : decode cX9_retried 38 = .ok (.goto 25, 3) := by decide +kernel
theorem dX9_retried_41 : decode cX9_retried 41 = .ok (.aload_n 0, 1) := by decide +kernel
theorem dX9_retried_42 : decode cX9_retried 42 = .ok (.aload_n 1, 1) := by decide +kernel
theorem dX9_retried_43 : decode cX9_retried 43 = .ok (.invokevirtual 187, 3) := by decide +kernel
theorem dX9_retried_46 : decode cX9_retried 46 = .ok (.ifCond .eq 11, 3) := by decide +kernel
theorem dX9_retried_49 : decode cX9_retried 49 = .ok (.aload_n 1, 1) := by decide +kernel
theorem dX9_retried_50 : decode cX9_retried 50 = .ok (.iconst 2, 1) := by decide +kernel
theorem dX9_retried_51 : decode cX9_retried 51 = .ok (.putfield 208, 3) := by decide +kernel
theorem dX9_retried_54 : decode cX9_retried 54 = .ok (.goto 9, 3) := by decide +kernel
theorem dX9_retried_57 : decode cX9_retried 57 = .ok (.aload_n 0, 1) := by decide +kernel
theorem dX9_retried_58 : decode cX9_retried 58 = .ok (.aload_n 1, 1) := by decide +kernel
theorem dX9_retried_59 : decode cX9_retried 59 = .ok (.invokevirtual 195, 3) := by decide +kernel
theorem dX9_retried_62 : decode cX9_retried 62 = .ok (.ireturn, 1) := by decide +kernel
theorem dX9_retried_63 : decode cX9_retried 63 = .ok (.iconst 0, 1) := by decide +kernel
theorem dX9_retried_64 : decode cX9_retried 64 = .ok (.ireturn, 1) := by decide +kernel
theorem dX9_thrownUp_0 : decode cX9_thrownUp 0 = .ok (.aload_n 1, 1) := by decide +kernel
theorem dX9_thrownUp_1 : decode cX9_thrownUp 1 = .ok (.getfield 121, 3) := by decide +kernel
theorem dX9_thrownUp_4 : decode cX9_thrownUp 4 = .ok (.ifCond .le 82, 3) := by decide +kernel
theorem dX9_thrownUp_7 : decode cX9_thrownUp 7 = .ok (.aload_n 1, 1) := by decide +kernel
theorem dX9_thrownUp_8 : decode cX9_thrownUp 8 = .ok (.getfield 121, 3) := by decide +kernel
theorem dX9_thrownUp_11 : decode cX9_thrownUp 11 = .ok (.iconst 1, 1) := by decide +kernel
theorem dX9_thrownUp_12 : decode cX9_thrownUp 12 = .ok (.isub, 1) := by decide +kernel
theorem dX9_thrownUp_13 : decode cX9_thrownUp 13 = .ok (.istore_n 3, 1) := by decide +kernel
theorem dX9_thrownUp_14 : decode cX9_thrownUp 14 = .ok (.aload_n 1, 1) := by decide +kernel
theorem dX9_thrownUp_15 : decode cX9_thrownUp 15 = .ok (.getfield 184, 3) := by decide +kernel
theorem dX9_thrownUp_18 : decode cX9_thrownUp 18 = .ok (.iload_n 3, 1) := by decide +kernel
theorem dX9_thrownUp_19 : decode cX9_thrownUp 19 = .ok (.iaload, 1) := by decide +kernel
theorem dX9_thrownUp_20 : decode cX9_thrownUp 20 = .ok (.iconst 2, 1) := by decide +kernel
theorem dX9_thrownUp_21 : decode cX9_thrownUp 21 = .ok (.if_icmp .ne 19, 3) := by decide +kernel
theorem dX9_thrownUp_24 : decode cX9_thrownUp 24 = .ok (.aload_n 1, 1) := by decide +kernel
theorem dX9_thrownUp_25 : decode cX9_thrownUp 25 = .ok (.iload_n 3, 1) := by decide +kernel
theorem dX9_thrownUp_26 : decode cX9_thrownUp 26 = .ok (.invokevirtual 211, 3) := by decide +kernel
theorem dX9_thrownUp_29 : decode cX9_thrownUp 29 = .ok (.aload_n 1, 1) := by decide +kernel
theorem dX9_thrownUp_30 : decode cX9_thrownUp 30 = .ok (.getfield 105, 3) := by decide +kernel
theorem dX9_thrownUp_33 : decode cX9_thrownUp 33 = .ok (.bipush 15, 2) := by decide +kernel
theorem dX9_thrownUp_35 : decode cX9_thrownUp 35 = .ok (.iload_n 2, 1) := by decide +kernel
theorem dX9_thrownUp_36 : decode cX9_thrownUp 36 = .ok (.i2l, 1) := by decide +kernel
theorem dX9_thrownUp_37 : decode cX9_thrownUp 37 = .ok (.lastore, 1) := by decide +kernel
theorem dX9_thrownUp_38 : decode cX9_thrownUp 38 = .ok (.iconst 0, 1) := by decide +kernel
theorem dX9_thrownUp_39 : decode cX9_thrownUp 39 = .ok (.ireturn, 1) := by decide +kernel
theorem dX9_thrownUp_40 : decode cX9_thrownUp 40 = .ok (.aload_n 1, 1) := by decide +kernel
theorem dX9_thrownUp_41 : decode cX9_thrownUp 41 = .ok (.getfield 184, 3) := by decide +kernel
theorem dX9_thrownUp_44 : decode cX9_thrownUp 44 = .ok (.iload_n 3, 1) := by decide +kernel
theorem dX9_thrownUp_45 : decode cX9_thrownUp 45 = .ok (.iaload, 1) := by decide +kernel
theorem dX9_thrownUp_46 : decode cX9_thrownUp 46 = .ok (.ifCond .ne 27, 3) := by decide +kernel
theorem dX9_thrownUp_49 : decode cX9_thrownUp 49 = .ok (.aload_n 0, 1) := by decide +kernel
theorem dX9_thrownUp_50 : decode cX9_thrownUp 50 = .ok (.aload_n 1, 1) := by decide +kernel
theorem dX9_thrownUp_51 : decode cX9_thrownUp 51 = .ok (.invokevirtual 187, 3) := by decide +kernel
theorem dX9_thrownUp_54 : decode cX9_thrownUp 54 = .ok (.ifCond .ne 9, 3) := by decide +kernel
theorem dX9_thrownUp_57 : decode cX9_thrownUp 57 = .ok (.aload_n 0, 1) := by decide +kernel
theorem dX9_thrownUp_58 : decode cX9_thrownUp 58 = .ok (.aload_n 1, 1) := by decide +kernel
theorem dX9_thrownUp_59 : decode cX9_thrownUp 59 = .ok (.invokevirtual 195, 3) := by decide +kernel
theorem dX9_thrownUp_62 : decode cX9_thrownUp 62 = .ok (.ireturn, 1) := by decide +kernel
theorem dX9_thrownUp_63 : decode cX9_thrownUp 63 = .ok (.aload_n 1, 1) := by decide +kernel
theorem dX9_thrownUp_64 : decode cX9_thrownUp 64 = .ok (.iconst 0, 1) := by decide +kernel
theorem dX9_thrownUp_65 : decode cX9_thrownUp 65 = .ok (.putfield 149, 3) := by decide +kernel
theorem dX9_thrownUp_68 : decode cX9_thrownUp 68 = .ok (.aload_n 1, 1) := by decide +kernel
theorem dX9_thrownUp_69 : decode cX9_thrownUp 69 = .ok (.iconst 0, 1) := by decide +kernel
theorem dX9_thrownUp_70 : decode cX9_thrownUp 70 = .ok (.putfield 172, 3) := by decide +kernel
theorem dX9_thrownUp_73 : decode cX9_thrownUp 73 = .ok (.aload_n 1, 1) := by decide +kernel
theorem dX9_thrownUp_74 : decode cX9_thrownUp 74 = .ok (.dup, 1) := by decide +kernel
theorem dX9_thrownUp_75 : decode cX9_thrownUp 75 = .ok (.getfield 121, 3) := by decide +kernel
theorem dX9_thrownUp_78 : decode cX9_thrownUp 78 = .ok (.iconst 1, 1) := by decide +kernel
theorem dX9_thrownUp_79 : decode cX9_thrownUp 79 = .ok (.isub, 1) := by decide +kernel
theorem dX9_thrownUp_80 : decode cX9_thrownUp 80 = .ok (.putfield 121, 3) := by decide +kernel
theorem dX9_thrownUp_83 : decode cX9_thrownUp 83 = .ok (.goto (-83), 3) := by decide +kernel
theorem dX9_thrownUp_86 : decode cX9_thrownUp 86 = .ok (.aload_n 1, 1) := by decide +kernel
theorem dX9_thrownUp_87 : decode cX9_thrownUp 87 = .ok (.iconst 4, 1) := by decide +kernel
theorem dX9_thrownUp_88 : decode cX9_thrownUp 88 = .ok (.iload_n 2, 1) := by decide +kernel
theorem dX9_thrownUp_89 : decode cX9_thrownUp 89 = .ok (.invokevirtual 79, 3) := by decide +kernel
theorem dX9_thrownUp_92 : decode cX9_thrownUp 92 = .ok (.iconst 0, 1) := by decide +kernel
theorem dX9_thrownUp_93 : decode cX9_thrownUp 93 = .ok (.ireturn, 1) := by decide +kernel
theorem dX9_outer_0 : decode cX9_outer 0 = .ok (.iload_n 2, 1) := by decide +kernel
theorem dX9_outer_1 : decode cX9_outer 1 = .ok (.tableswitch 224 25 27 #[27, 128, 209], 27) := by decide +kernel
theorem dX9_outer_28 : decode cX9_outer 28 = .ok (.aload_n 0, 1) := by decide +kernel
theorem dX9_outer_29 : decode cX9_outer 29 = .ok (.getfield 7, 3) := by decide +kernel
theorem dX9_outer_32 : decode cX9_outer 32 = .ok (.bipush 16, 2) := by decide +kernel
theorem dX9_outer_34 : decode cX9_outer 34 = .ok (.if_icmp .ne 14, 3) := by decide +kernel
theorem dX9_outer_37 : decode cX9_outer 37 = .ok (.aload_n 1, 1) := by decide +kernel
theorem dX9_outer_38 : decode cX9_outer 38 = .ok (.getfield 105, 3) := by decide +kernel
theorem dX9_outer_41 : decode cX9_outer 41 = .ok (.iload_n 3, 1) := by decide +kernel
theorem dX9_outer_42 : decode cX9_outer 42 = .ok (.ldc2_w 214, 3) := by decide +kernel
theorem dX9_outer_45 : decode cX9_outer 45 = .ok (.lastore, 1) := by decide +kernel
theorem dX9_outer_46 : decode cX9_outer 46 = .ok (.iconst 0, 1) := by decide +kernel
theorem dX9_outer_47 : decode cX9_outer 47 = .ok (.ireturn, 1) := by decide +kernel
theorem dX9_outer_48 : decode cX9_outer 48 = .ok (.new 26, 3) := by decide +kernel
theorem dX9_outer_51 : decode cX9_outer 51 = .ok (.dup, 1) := by decide +kernel
theorem dX9_outer_52 : decode cX9_outer 52 = .ok (.invokespecial 58, 3) := by decide +kernel
theorem dX9_outer_55 : decode cX9_outer 55 = .ok (.astore 5, 2) := by decide +kernel
theorem dX9_outer_57 : decode cX9_outer 57 = .ok (.aload_n 1, 1) := by decide +kernel
theorem dX9_outer_58 : decode cX9_outer 58 = .ok (.getfield 105, 3) := by decide +kernel
theorem dX9_outer_61 : decode cX9_outer 61 = .ok (.iload_n 3, 1) := by decide +kernel
theorem dX9_outer_62 : decode cX9_outer 62 = .ok (.aload_n 0, 1) := by decide +kernel
theorem dX9_outer_63 : decode cX9_outer 63 = .ok (.getfield 7, 3) := by decide +kernel
theorem dX9_outer_66 : decode cX9_outer 66 = .ok (.i2l, 1) := by decide +kernel
theorem dX9_outer_67 : decode cX9_outer 67 = .ok (.lastore, 1) := by decide +kernel
theorem dX9_outer_68 : decode cX9_outer 68 = .ok (.iconst 0, 1) := by decide +kernel
theorem dX9_outer_69 : decode cX9_outer 69 = .ok (.istore 6, 2) := by decide +kernel
theorem dX9_outer_71 : decode cX9_outer 71 = .ok (.iload 6, 2) := by decide +kernel
theorem dX9_outer_73 : decode cX9_outer 73 = .ok (.bipush 16, 2) := by decide +kernel
theorem dX9_outer_75 : decode cX9_outer 75 = .ok (.if_icmp .ge 24, 3) := by decide +kernel
theorem dX9_outer_78 : decode cX9_outer 78 = .ok (.aload 5, 2) := by decide +kernel
theorem dX9_outer_80 : decode cX9_outer 80 = .ok (.getfield 105, 3) := by decide +kernel
theorem dX9_outer_83 : decode cX9_outer 83 = .ok (.iload 6, 2) := by decide +kernel
theorem dX9_outer_85 : decode cX9_outer 85 = .ok (.aload_n 1, 1) := by decide +kernel
theorem dX9_outer_86 : decode cX9_outer 86 = .ok (.getfield 105, 3) := by decide +kernel
theorem dX9_outer_89 : decode cX9_outer 89 = .ok (.iload 6, 2) := by decide +kernel
theorem dX9_outer_91 : decode cX9_outer 91 = .ok (.laload, 1) := by decide +kernel
theorem dX9_outer_92 : decode cX9_outer 92 = .ok (.lastore, 1) := by decide +kernel
theorem dX9_outer_93 : decode cX9_outer 93 = .ok (.iinc 6 1, 3) := by decide +kernel
theorem dX9_outer_96 : decode cX9_outer 96 = .ok (.goto (-25), 3) := by decide +kernel
theorem dX9_outer_99 : decode cX9_outer 99 = .ok (.aload 5, 2) := by decide +kernel
theorem dX9_outer_101 : decode cX9_outer 101 = .ok (.iload 4, 2) := by decide +kernel
theorem dX9_outer_103 : decode cX9_outer 103 = .ok (.putfield 69, 3) := by decide +kernel
theorem dX9_outer_106 : decode cX9_outer 106 = .ok (.aload_n 0, 1) := by decide +kernel
theorem dX9_outer_107 : decode cX9_outer 107 = .ok (.getfield 28, 3) := by decide +kernel
theorem dX9_outer_110 : decode cX9_outer 110 = .ok (.aload_n 0, 1) := by decide +kernel
theorem dX9_outer_111 : decode cX9_outer 111 = .ok (.getfield 7, 3) := by decide +kernel
theorem dX9_outer_114 : decode cX9_outer 114 = .ok (.aload 5, 2) := by decide +kernel
theorem dX9_outer_116 : decode cX9_outer 116 = .ok (.aastore, 1) := by decide +kernel
theorem dX9_outer_117 : decode cX9_outer 117 = .ok (.aload_n 0, 1) := by decide +kernel
theorem dX9_outer_118 : decode cX9_outer 118 = .ok (.dup, 1) := by decide +kernel
theorem dX9_outer_119 : decode cX9_outer 119 = .ok (.getfield 7, 3) := by decide +kernel
theorem dX9_outer_122 : decode cX9_outer 122 = .ok (.iconst 1, 1) := by decide +kernel
theorem dX9_outer_123 : decode cX9_outer 123 = .ok (.iadd, 1) := by decide +kernel
theorem dX9_outer_124 : decode cX9_outer 124 = .ok (.putfield 7, 3) := by decide +kernel
theorem dX9_outer_127 : decode cX9_outer 127 = .ok (.iconst 0, 1) := by decide +kernel
theorem dX9_outer_128 : decode cX9_outer 128 = .ok (.ireturn, 1) := by decide +kernel
theorem dX9_outer_129 : decode cX9_outer 129 = .ok (.aload_n 0, 1) := by decide +kernel
theorem dX9_outer_130 : decode cX9_outer 130 = .ok (.getfield 216, 3) := by decide +kernel
theorem dX9_outer_133 : decode cX9_outer 133 = .ok (.sipush 200, 3) := by decide +kernel
theorem dX9_outer_136 : decode cX9_outer 136 = .ok (.if_icmp .ne 46, 3) := by decide +kernel
theorem dX9_outer_139 : decode cX9_outer 139 = .ok (.iconst 1, 1) := by decide +kernel
theorem dX9_outer_140 : decode cX9_outer 140 = .ok (.istore 6, 2) := by decide +kernel
theorem dX9_outer_142 : decode cX9_outer 142 = .ok (.iload 6, 2) := by decide +kernel
theorem dX9_outer_144 : decode cX9_outer 144 = .ok (.sipush 200, 3) := by decide +kernel
theorem dX9_outer_147 : decode cX9_outer 147 = .ok (.if_icmp .ge 25, 3) := by decide +kernel
theorem dX9_outer_150 : decode cX9_outer 150 = .ok (.aload_n 0, 1) := by decide +kernel
theorem dX9_outer_151 : decode cX9_outer 151 = .ok (.getfield 55, 3) := by decide +kernel
theorem dX9_outer_154 : decode cX9_outer 154 = .ok (.iload 6, 2) := by decide +kernel
theorem dX9_outer_156 : decode cX9_outer 156 = .ok (.iconst 1, 1) := by decide +kernel
theorem dX9_outer_157 : decode cX9_outer 157 = .ok (.isub, 1) := by decide +kernel
theorem dX9_outer_158 : decode cX9_outer 158 = .ok (.aload_n 0, 1) := by decide +kernel
theorem dX9_outer_159 : decode cX9_outer 159 = .ok (.getfield 55, 3) := by decide +kernel
theorem dX9_outer_162 : decode cX9_outer 162 = .ok (.iload 6, 2) := by decide +kernel
theorem dX9_outer_164 : decode cX9_outer 164 = .ok (.iaload, 1) := by decide +kernel
theorem dX9_outer_165 : decode cX9_outer 165 = .ok (.iastore, 1) := by decide +kernel
theorem dX9_outer_166 : decode cX9_outer 166 = .ok (.iinc 6 1, 3) := by decide +kernel
theorem dX9_outer_169 : decode cX9_outer 169 = .ok (.goto (-27), 3) := by decide +kernel
theorem dX9_outer_172 : decode cX9_outer 172 = .ok (.aload_n 0, 1) := by decide +kernel
theorem dX9_outer_173 : decode cX9_outer 173 = .ok (.dup, 1) := by decide +kernel
theorem dX9_outer_174 : decode cX9_outer 174 = .ok (.getfield 216, 3) := by decide +kernel
theorem dX9_outer_177 : decode cX9_outer 177 = .ok (.iconst 1, 1) := by decide +kernel
theorem dX9_outer_178 : decode cX9_outer 178 = .ok (.isub, 1) := by decide +kernel
theorem dX9_outer_179 : decode cX9_outer 179 = .ok (.putfield 216, 3) := by decide +kernel
theorem dX9_outer_182 : decode cX9_outer 182 = .ok (.aload_n 0, 1) := by decide +kernel
theorem dX9_outer_183 : decode cX9_outer 183 = .ok (.getfield 55, 3) := by decide +kernel
theorem dX9_outer_186 : decode cX9_outer 186 = .ok (.aload_n 0, 1) := by decide +kernel
theorem dX9_outer_187 : decode cX9_outer 187 = .ok (.getfield 216, 3) := by decide +kernel
theorem dX9_outer_190 : decode cX9_outer 190 = .ok (.aload_n 1, 1) := by decide +kernel
theorem dX9_outer_191 : decode cX9_outer 191 = .ok (.getfield 105, 3) := by decide +kernel
theorem dX9_outer_194 : decode cX9_outer 194 = .ok (.iload_n 3, 1) := by decide +kernel
theorem dX9_outer_195 : decode cX9_outer 195 = .ok (.laload, 1) := by decide +kernel
theorem dX9_outer_196 : decode cX9_outer 196 = .ok (.l2i, 1) := by decide +kernel
theorem dX9_outer_197 : decode cX9_outer 197 = .ok (.iastore, 1) := by decide +kernel
theorem dX9_outer_198 : decode cX9_outer 198 = .ok (.aload_n 0, 1) := by decide +kernel
theorem dX9_outer_199 : decode cX9_outer 199 = .ok (.dup, 1) := by decide +kernel
theorem dX9_outer_200 : decode cX9_outer 200 = .ok (.getfield 216, 3) := by decide +kernel
theorem dX9_outer_203 : decode cX9_outer 203 = .ok (.iconst 1, 1) := by decide +kernel
theorem dX9_outer_204 : decode cX9_outer 204 = .ok (.iadd, 1) := by decide +kernel
theorem dX9_outer_205 : decode cX9_outer 205 = .ok (.putfield 216, 3) := by decide +kernel
theorem dX9_outer_208 : decode cX9_outer 208 = .ok (.iconst 0, 1) := by decide +kernel
theorem dX9_outer_209 : decode cX9_outer 209 = .ok (.ireturn, 1) := by decide +kernel
theorem dX9_outer_210 : decode cX9_outer 210 = .ok (.aload_n 0, 1) := by decide +kernel
theorem dX9_outer_211 : decode cX9_outer 211 = .ok (.getfield 32, 3) := by decide +kernel
theorem dX9_outer_214 : decode cX9_outer 214 = .ok (.iload_n 3, 1) := by decide +kernel
theorem dX9_outer_215 : decode cX9_outer 215 = .ok (.aload_n 1, 1) := by decide +kernel
theorem dX9_outer_216 : decode cX9_outer 216 = .ok (.getfield 105, 3) := by decide +kernel
theorem dX9_outer_219 : decode cX9_outer 219 = .ok (.iload 4, 2) := by decide +kernel
theorem dX9_outer_221 : decode cX9_outer 221 = .ok (.laload, 1) := by decide +kernel
theorem dX9_outer_222 : decode cX9_outer 222 = .ok (.lastore, 1) := by decide +kernel
theorem dX9_outer_223 : decode cX9_outer 223 = .ok (.iconst 0, 1) := by decide +kernel
theorem dX9_outer_224 : decode cX9_outer 224 = .ok (.ireturn, 1) := by decide +kernel
theorem dX9_outer_225 : decode cX9_outer 225 = .ok (.aload_n 1, 1) := by decide +kernel
theorem dX9_outer_226 : decode cX9_outer 226 = .ok (.getfield 105, 3) := by decide +kernel
theorem dX9_outer_229 : decode cX9_outer 229 = .ok (.iload_n 3, 1) := by decide +kernel
theorem dX9_outer_230 : decode cX9_outer 230 = .ok (.aload_n 0, 1) := by decide +kernel
theorem dX9_outer_231 : decode cX9_outer 231 = .ok (.getfield 32, 3) := by decide +kernel
theorem dX9_outer_234 : decode cX9_outer 234 = .ok (.iload 4, 2) := by decide +kernel
theorem dX9_outer_236 : decode cX9_outer 236 = .ok (.laload, 1) := by decide +kernel
theorem dX9_outer_237 : decode cX9_outer 237 = .ok (.lastore, 1) := by decide +kernel
theorem dX9_outer_238 : decode cX9_outer 238 = .ok (.iconst 0, 1) := by decide +kernel
theorem dX9_outer_239 : decode cX9_outer 239 = .ok (.ireturn, 1) := by decide +kernel
theorem dX9_reach_0 : decode cX9_reach 0 = .ok (.lload_n 1, 1) := by decide +kernel
theorem dX9_reach_1 : decode cX9_reach 1 = .ok (.invokestatic 108, 3) := by decide +kernel
theorem dX9_reach_4 : decode cX9_reach 4 = .ok (.ifCond .ne 15, 3) := by decide +kernel
theorem dX9_reach_7 : decode cX9_reach 7 = .ok (.aload_n 0, 1) := by decide +kernel
theorem dX9_reach_8 : decode cX9_reach 8 = .ok (.getfield 46, 3) := by decide +kernel
theorem dX9_reach_11 : decode cX9_reach 11 = .ok (.lload_n 1, 1) := by decide +kernel
theorem dX9_reach_12 : decode cX9_reach 12 = .ok (.invokestatic 137, 3) := by decide +kernel
theorem dX9_reach_15 : decode cX9_reach 15 = .ok (.baload, 1) := by decide +kernel
theorem dX9_reach_16 : decode cX9_reach 16 = .ok (.ifCond .eq 5, 3) := by decide +kernel
theorem dX9_reach_19 : decode cX9_reach 19 = .ok (.iconst 0, 1) := by decide +kernel
theorem dX9_reach_20 : decode cX9_reach 20 = .ok (.ireturn, 1) := by decide +kernel
theorem dX9_reach_21 : decode cX9_reach 21 = .ok (.aload_n 0, 1) := by decide +kernel
theorem dX9_reach_22 : decode cX9_reach 22 = .ok (.getfield 46, 3) := by decide +kernel
theorem dX9_reach_25 : decode cX9_reach 25 = .ok (.lload_n 1, 1) := by decide +kernel
theorem dX9_reach_26 : decode cX9_reach 26 = .ok (.invokestatic 137, 3) := by decide +kernel
theorem dX9_reach_29 : decode cX9_reach 29 = .ok (.iconst 1, 1) := by decide +kernel
theorem dX9_reach_30 : decode cX9_reach 30 = .ok (.bastore, 1) := by decide +kernel
theorem dX9_reach_31 : decode cX9_reach 31 = .ok (.iconst 1, 1) := by decide +kernel
theorem dX9_reach_32 : decode cX9_reach 32 = .ok (.ireturn, 1) := by decide +kernel
theorem dX9_reachRow_0 : decode cX9_reachRow 0 = .ok (.iconst 0, 1) := by decide +kernel
theorem dX9_reachRow_1 : decode cX9_reachRow 1 = .ok (.istore_n 3, 1) := by decide +kernel
theorem dX9_reachRow_2 : decode cX9_reachRow 2 = .ok (.iconst 0, 1) := by decide +kernel
theorem dX9_reachRow_3 : decode cX9_reachRow 3 = .ok (.istore 4, 2) := by decide +kernel
theorem dX9_reachRow_5 : decode cX9_reachRow 5 = .ok (.iload 4, 2) := by decide +kernel
theorem dX9_reachRow_7 : decode cX9_reachRow 7 = .ok (.iload_n 2, 1) := by decide +kernel
theorem dX9_reachRow_8 : decode cX9_reachRow 8 = .ok (.if_icmp .ge 20, 3) := by decide +kernel
theorem dX9_reachRow_11 : decode cX9_reachRow 11 = .ok (.iload_n 3, 1) := by decide +kernel
theorem dX9_reachRow_12 : decode cX9_reachRow 12 = .ok (.aload_n 0, 1) := by decide +kernel
theorem dX9_reachRow_13 : decode cX9_reachRow 13 = .ok (.aload_n 1, 1) := by decide +kernel
theorem dX9_reachRow_14 : decode cX9_reachRow 14 = .ok (.iload 4, 2) := by decide +kernel
theorem dX9_reachRow_16 : decode cX9_reachRow 16 = .ok (.laload, 1) := by decide +kernel
theorem dX9_reachRow_17 : decode cX9_reachRow 17 = .ok (.invokevirtual 219, 3) := by decide +kernel
theorem dX9_reachRow_20 : decode cX9_reachRow 20 = .ok (.ior, 1) := by decide +kernel
theorem dX9_reachRow_21 : decode cX9_reachRow 21 = .ok (.istore_n 3, 1) := by decide +kernel
theorem dX9_reachRow_22 : decode cX9_reachRow 22 = .ok (.iinc 4 1, 3) := by decide +kernel
theorem dX9_reachRow_25 : decode cX9_reachRow 25 = .ok (.goto (-20), 3) := by decide +kernel
theorem dX9_reachRow_28 : decode cX9_reachRow 28 = .ok (.iload_n 3, 1) := by decide +kernel
theorem dX9_reachRow_29 : decode cX9_reachRow 29 = .ok (.ireturn, 1) := by decide +kernel
theorem dX9_moved_0 : decode cX9_moved 0 = .ok (.lload_n 1, 1) := by decide +kernel
theorem dX9_moved_1 : decode cX9_moved 1 = .ok (.invokestatic 108, 3) := by decide +kernel
theorem dX9_moved_4 : decode cX9_moved 4 = .ok (.ifCond .eq 7, 3) := by decide +kernel
theorem dX9_moved_7 : decode cX9_moved 7 = .ok (.lload_n 1, 1) := by decide +kernel
theorem dX9_moved_8 : decode cX9_moved 8 = .ok (.goto 30, 3) := by decide +kernel
theorem dX9_moved_11 : decode cX9_moved 11 = .ok (.lload_n 1, 1) := by decide +kernel
theorem dX9_moved_12 : decode cX9_moved 12 = .ok (.invokestatic 112, 3) := by decide +kernel
theorem dX9_moved_15 : decode cX9_moved 15 = .ok (.ifCond .eq 9, 3) := by decide +kernel
theorem dX9_moved_18 : decode cX9_moved 18 = .ok (.ldc2_w 62, 3) := by decide +kernel
theorem dX9_moved_21 : decode cX9_moved 21 = .ok (.goto 6, 3) := by decide +kernel
theorem dX9_moved_24 : decode cX9_moved 24 = .ok (.ldc2_w 64, 3) := by decide +kernel
theorem dX9_moved_27 : decode cX9_moved 27 = .ok (.aload_n 0, 1) := by decide +kernel
theorem dX9_moved_28 : decode cX9_moved 28 = .ok (.getfield 52, 3) := by decide +kernel
theorem dX9_moved_31 : decode cX9_moved 31 = .ok (.lload_n 1, 1) := by decide +kernel
theorem dX9_moved_32 : decode cX9_moved 32 = .ok (.invokestatic 137, 3) := by decide +kernel
theorem dX9_moved_35 : decode cX9_moved 35 = .ok (.iaload, 1) := by decide +kernel
theorem dX9_moved_36 : decode cX9_moved 36 = .ok (.i2l, 1) := by decide +kernel
theorem dX9_moved_37 : decode cX9_moved 37 = .ok (.ladd, 1) := by decide +kernel
theorem dX9_moved_38 : decode cX9_moved 38 = .ok (.lreturn, 1) := by decide +kernel
theorem dX9_moveRow_0 : decode cX9_moveRow 0 = .ok (.iconst 0, 1) := by decide +kernel
theorem dX9_moveRow_1 : decode cX9_moveRow 1 = .ok (.istore_n 3, 1) := by decide +kernel
theorem dX9_moveRow_2 : decode cX9_moveRow 2 = .ok (.iload_n 3, 1) := by decide +kernel
theorem dX9_moveRow_3 : decode cX9_moveRow 3 = .ok (.iload_n 2, 1) := by decide +kernel
theorem dX9_moveRow_4 : decode cX9_moveRow 4 = .ok (.if_icmp .ge 19, 3) := by decide +kernel
theorem dX9_moveRow_7 : decode cX9_moveRow 7 = .ok (.aload_n 1, 1) := by decide +kernel
theorem dX9_moveRow_8 : decode cX9_moveRow 8 = .ok (.iload_n 3, 1) := by decide +kernel
theorem dX9_moveRow_9 : decode cX9_moveRow 9 = .ok (.aload_n 0, 1) := by decide +kernel
theorem dX9_moveRow_10 : decode cX9_moveRow 10 = .ok (.aload_n 1, 1) := by decide +kernel
theorem dX9_moveRow_11 : decode cX9_moveRow 11 = .ok (.iload_n 3, 1) := by decide +kernel
theorem dX9_moveRow_12 : decode cX9_moveRow 12 = .ok (.laload, 1) := by decide +kernel
theorem dX9_moveRow_13 : decode cX9_moveRow 13 = .ok (.invokevirtual 222, 3) := by decide +kernel
theorem dX9_moveRow_16 : decode cX9_moveRow 16 = .ok (.lastore, 1) := by decide +kernel
theorem dX9_moveRow_17 : decode cX9_moveRow 17 = .ok (.iinc 3 1, 3) := by decide +kernel
theorem dX9_moveRow_20 : decode cX9_moveRow 20 = .ok (.goto (-18), 3) := by decide +kernel
theorem dX9_moveRow_23 : decode cX9_moveRow 23 = .ok (.return_, 1) := by decide +kernel
theorem dX9_gather_0 : decode cX9_gather 0 = .ok (.aload_n 0, 1) := by decide +kernel
theorem dX9_gather_1 : decode cX9_gather 1 = .ok (.dup, 1) := by decide +kernel
theorem dX9_gather_2 : decode cX9_gather 2 = .ok (.getfield 226, 3) := by decide +kernel
theorem dX9_gather_5 : decode cX9_gather 5 = .ok (.iconst 1, 1) := by decide +kernel
theorem dX9_gather_6 : decode cX9_gather 6 = .ok (.iadd, 1) := by decide +kernel
theorem dX9_gather_7 : decode cX9_gather 7 = .ok (.putfield 226, 3) := by decide +kernel
theorem dX9_gather_10 : decode cX9_gather 10 = .ok (.iconst 0, 1) := by decide +kernel
theorem dX9_gather_11 : decode cX9_gather 11 = .ok (.istore_n 1, 1) := by decide +kernel
theorem dX9_gather_12 : decode cX9_gather 12 = .ok (.iload_n 1, 1) := by decide +kernel
theorem dX9_gather_13 : decode cX9_gather 13 = .ok (.sipush 200, 3) := by decide +kernel
theorem dX9_gather_16 : decode cX9_gather 16 = .ok (.if_icmp .ge 16, 3) := by decide +kernel
theorem dX9_gather_19 : decode cX9_gather 19 = .ok (.aload_n 0, 1) := by decide +kernel
theorem dX9_gather_20 : decode cX9_gather 20 = .ok (.getfield 46, 3) := by decide +kernel
theorem dX9_gather_23 : decode cX9_gather 23 = .ok (.iload_n 1, 1) := by decide +kernel
theorem dX9_gather_24 : decode cX9_gather 24 = .ok (.iconst 0, 1) := by decide +kernel
theorem dX9_gather_25 : decode cX9_gather 25 = .ok (.bastore, 1) := by decide +kernel
theorem dX9_gather_26 : decode cX9_gather 26 = .ok (.iinc 1 1, 3) := by decide +kernel
theorem dX9_gather_29 : decode cX9_gather 29 = .ok (.goto (-17), 3) := by decide +kernel
theorem dX9_gather_32 : decode cX9_gather 32 = .ok (.aload_n 0, 1) := by decide +kernel
theorem dX9_gather_33 : decode cX9_gather 33 = .ok (.aload_n 0, 1) := by decide +kernel
theorem dX9_gather_34 : decode cX9_gather 34 = .ok (.getfield 32, 3) := by decide +kernel
theorem dX9_gather_37 : decode cX9_gather 37 = .ok (.bipush 8, 2) := by decide +kernel
theorem dX9_gather_39 : decode cX9_gather 39 = .ok (.invokevirtual 229, 3) := by decide +kernel
theorem dX9_gather_42 : decode cX9_gather 42 = .ok (.pop, 1) := by decide +kernel
theorem dX9_gather_43 : decode cX9_gather 43 = .ok (.iconst 0, 1) := by decide +kernel
theorem dX9_gather_44 : decode cX9_gather 44 = .ok (.istore_n 1, 1) := by decide +kernel
theorem dX9_gather_45 : decode cX9_gather 45 = .ok (.iload_n 1, 1) := by decide +kernel
theorem dX9_gather_46 : decode cX9_gather 46 = .ok (.aload_n 0, 1) := by decide +kernel
theorem dX9_gather_47 : decode cX9_gather 47 = .ok (.getfield 7, 3) := by decide +kernel
theorem dX9_gather_50 : decode cX9_gather 50 = .ok (.if_icmp .ge 158, 3) := by decide +kernel
theorem dX9_gather_53 : decode cX9_gather 53 = .ok (.aload_n 0, 1) := by decide +kernel
theorem dX9_gather_54 : decode cX9_gather 54 = .ok (.getfield 28, 3) := by decide +kernel
theorem dX9_gather_57 : decode cX9_gather 57 = .ok (.iload_n 1, 1) := by decide +kernel
theorem dX9_gather_58 : decode cX9_gather 58 = .ok (.aaload, 1) := by decide +kernel
theorem dX9_gather_59 : decode cX9_gather 59 = .ok (.astore_n 2, 1) := by decide +kernel
theorem dX9_gather_60 : decode cX9_gather 60 = .ok (.aload_n 2, 1) := by decide +kernel
theorem dX9_gather_61 : decode cX9_gather 61 = .ok (.getfield 208, 3) := by decide +kernel
theorem dX9_gather_64 : decode cX9_gather 64 = .ok (.iconst 3, 1) := by decide +kernel
theorem dX9_gather_65 : decode cX9_gather 65 = .ok (.if_icmp .eq 11, 3) := by decide +kernel
theorem dX9_gather_68 : decode cX9_gather 68 = .ok (.aload_n 2, 1) := by decide +kernel
theorem dX9_gather_69 : decode cX9_gather 69 = .ok (.getfield 208, 3) := by decide +kernel
theorem dX9_gather_72 : decode cX9_gather 72 = .ok (.iconst 4, 1) := by decide +kernel
theorem dX9_gather_73 : decode cX9_gather 73 = .ok (.if_icmp .ne 7, 3) := by decide +kernel
theorem dX9_gather_76 : decode cX9_gather 76 = .ok (.iconst 1, 1) := by decide +kernel
theorem dX9_gather_77 : decode cX9_gather 77 = .ok (.goto 4, 3) := by decide +kernel
theorem dX9_gather_80 : decode cX9_gather 80 = .ok (.iconst 0, 1) := by decide +kernel
theorem dX9_gather_81 : decode cX9_gather 81 = .ok (.istore_n 3, 1) := by decide +kernel
theorem dX9_gather_82 : decode cX9_gather 82 = .ok (.iconst 0, 1) := by decide +kernel
theorem dX9_gather_83 : decode cX9_gather 83 = .ok (.istore 4, 2) := by decide +kernel
theorem dX9_gather_85 : decode cX9_gather 85 = .ok (.iload_n 3, 1) := by decide +kernel
theorem dX9_gather_86 : decode cX9_gather 86 = .ok (.ifCond .eq 50, 3) := by decide +kernel
theorem dX9_gather_89 : decode cX9_gather 89 = .ok (.iload 4, 2) := by decide +kernel
theorem dX9_gather_91 : decode cX9_gather 91 = .ok (.bipush 16, 2) := by decide +kernel
theorem dX9_gather_93 : decode cX9_gather 93 = .ok (.if_icmp .ge 43, 3) := by decide +kernel
theorem dX9_gather_96 : decode cX9_gather 96 = .ok (.aload_n 2, 1) := by decide +kernel
theorem dX9_gather_97 : decode cX9_gather 97 = .ok (.getfield 105, 3) := by decide +kernel
theorem dX9_gather_100 : decode cX9_gather 100 = .ok (.iload 4, 2) := by decide +kernel
theorem dX9_gather_102 : decode cX9_gather 102 = .ok (.laload, 1) := by decide +kernel
theorem dX9_gather_103 : decode cX9_gather 103 = .ok (.invokestatic 108, 3) := by decide +kernel
theorem dX9_gather_106 : decode cX9_gather 106 = .ok (.ifCond .ne 24, 3) := by decide +kernel
theorem dX9_gather_109 : decode cX9_gather 109 = .ok (.aload_n 2, 1) := by decide +kernel
theorem dX9_gather_110 : decode cX9_gather 110 = .ok (.getfield 208, 3) := by decide +kernel
theorem dX9_gather_113 : decode cX9_gather 113 = .ok (.iconst 4, 1) := by decide +kernel
theorem dX9_gather_114 : decode cX9_gather 114 = .ok (.if_icmp .eq 8, 3) := by decide +kernel
theorem dX9_gather_117 : decode cX9_gather 117 = .ok (.iload 4, 2) := by decide +kernel
theorem dX9_gather_119 : decode cX9_gather 119 = .ok (.ifCond .le 11, 3) := by decide +kernel
theorem dX9_gather_122 : decode cX9_gather 122 = .ok (.aload_n 2, 1) := by decide +kernel
theorem dX9_gather_123 : decode cX9_gather 123 = .ok (.getfield 105, 3) := by decide +kernel
theorem dX9_gather_126 : decode cX9_gather 126 = .ok (.iload 4, 2) := by decide +kernel
theorem dX9_gather_128 : decode cX9_gather 128 = .ok (.lconst 0, 1) := by decide +kernel
theorem dX9_gather_129 : decode cX9_gather 129 = .ok (.lastore, 1) := by decide +kernel
theorem dX9_gather_130 : decode cX9_gather 130 = .ok (.iinc 4 1, 3) := by decide +kernel
theorem dX9_gather_133 : decode cX9_gather 133 = .ok (.goto (-48), 3) := by decide +kernel
theorem dX9_gather_136 : decode cX9_gather 136 = .ok (.aload_n 0, 1) := by decide +kernel
theorem dX9_gather_137 : decode cX9_gather 137 = .ok (.aload_n 2, 1) := by decide +kernel
theorem dX9_gather_138 : decode cX9_gather 138 = .ok (.getfield 105, 3) := by decide +kernel
theorem dX9_gather_141 : decode cX9_gather 141 = .ok (.bipush 16, 2) := by decide +kernel
theorem dX9_gather_143 : decode cX9_gather 143 = .ok (.invokevirtual 229, 3) := by decide +kernel
theorem dX9_gather_146 : decode cX9_gather 146 = .ok (.pop, 1) := by decide +kernel
theorem dX9_gather_147 : decode cX9_gather 147 = .ok (.aload_n 0, 1) := by decide +kernel
theorem dX9_gather_148 : decode cX9_gather 148 = .ok (.aload_n 2, 1) := by decide +kernel
theorem dX9_gather_149 : decode cX9_gather 149 = .ok (.getfield 233, 3) := by decide +kernel
theorem dX9_gather_152 : decode cX9_gather 152 = .ok (.bipush 16, 2) := by decide +kernel
theorem dX9_gather_154 : decode cX9_gather 154 = .ok (.aload_n 2, 1) := by decide +kernel
theorem dX9_gather_155 : decode cX9_gather 155 = .ok (.getfield 121, 3) := by decide +kernel
theorem dX9_gather_158 : decode cX9_gather 158 = .ok (.imul, 1) := by decide +kernel
theorem dX9_gather_159 : decode cX9_gather 159 = .ok (.invokevirtual 229, 3) := by decide +kernel
theorem dX9_gather_162 : decode cX9_gather 162 = .ok (.pop, 1) := by decide +kernel
theorem dX9_gather_163 : decode cX9_gather 163 = .ok (.aload_n 0, 1) := by decide +kernel
theorem dX9_gather_164 : decode cX9_gather 164 = .ok (.aload_n 2, 1) := by decide +kernel
theorem dX9_gather_165 : decode cX9_gather 165 = .ok (.getfield 152, 3) := by decide +kernel
theorem dX9_gather_168 : decode cX9_gather 168 = .ok (.aload_n 2, 1) := by decide +kernel
theorem dX9_gather_169 : decode cX9_gather 169 = .ok (.getfield 149, 3) := by decide +kernel
theorem dX9_gather_172 : decode cX9_gather 172 = .ok (.invokevirtual 229, 3) := by decide +kernel
theorem dX9_gather_175 : decode cX9_gather 175 = .ok (.pop, 1) := by decide +kernel
theorem dX9_gather_176 : decode cX9_gather 176 = .ok (.aload_n 0, 1) := by decide +kernel
theorem dX9_gather_177 : decode cX9_gather 177 = .ok (.aload_n 2, 1) := by decide +kernel
theorem dX9_gather_178 : decode cX9_gather 178 = .ok (.getfield 175, 3) := by decide +kernel
theorem dX9_gather_181 : decode cX9_gather 181 = .ok (.aload_n 2, 1) := by decide +kernel
theorem dX9_gather_182 : decode cX9_gather 182 = .ok (.getfield 172, 3) := by decide +kernel
theorem dX9_gather_185 : decode cX9_gather 185 = .ok (.invokevirtual 229, 3) := by decide +kernel
theorem dX9_gather_188 : decode cX9_gather 188 = .ok (.pop, 1) := by decide +kernel
theorem dX9_gather_189 : decode cX9_gather 189 = .ok (.aload_n 0, 1) := by decide +kernel
theorem dX9_gather_190 : decode cX9_gather 190 = .ok (.aload_n 2, 1) := by decide +kernel
theorem dX9_gather_191 : decode cX9_gather 191 = .ok (.getfield 178, 3) := by decide +kernel
theorem dX9_gather_194 : decode cX9_gather 194 = .ok (.aload_n 2, 1) := by decide +kernel
theorem dX9_gather_195 : decode cX9_gather 195 = .ok (.getfield 172, 3) := by decide +kernel
theorem dX9_gather_198 : decode cX9_gather 198 = .ok (.invokevirtual 229, 3) := by decide +kernel
theorem dX9_gather_201 : decode cX9_gather 201 = .ok (.pop, 1) := by decide +kernel
theorem dX9_gather_202 : decode cX9_gather 202 = .ok (.iinc 1 1, 3) := by decide +kernel
theorem dX9_gather_205 : decode cX9_gather 205 = .ok (.goto (-160), 3) := by decide +kernel
theorem dX9_gather_208 : decode cX9_gather 208 = .ok (.iconst 1, 1) := by decide +kernel
theorem dX9_gather_209 : decode cX9_gather 209 = .ok (.istore_n 1, 1) := by decide +kernel
theorem dX9_gather_210 : decode cX9_gather 210 = .ok (.iload_n 1, 1) := by decide +kernel
theorem dX9_gather_211 : decode cX9_gather 211 = .ok (.ifCond .eq 62, 3) := by decide +kernel
theorem dX9_gather_214 : decode cX9_gather 214 = .ok (.iconst 0, 1) := by decide +kernel
theorem dX9_gather_215 : decode cX9_gather 215 = .ok (.istore_n 1, 1) := by decide +kernel
theorem dX9_gather_216 : decode cX9_gather 216 = .ok (.iconst 0, 1) := by decide +kernel
theorem dX9_gather_217 : decode cX9_gather 217 = .ok (.istore_n 2, 1) := by decide +kernel
theorem dX9_gather_218 : decode cX9_gather 218 = .ok (.iload_n 2, 1) := by decide +kernel
theorem dX9_gather_219 : decode cX9_gather 219 = .ok (.aload_n 0, 1) := by decide +kernel
theorem dX9_gather_220 : decode cX9_gather 220 = .ok (.getfield 143, 3) := by decide +kernel
theorem dX9_gather_223 : decode cX9_gather 223 = .ok (.if_icmp .ge 47, 3) := by decide +kernel
theorem dX9_gather_226 : decode cX9_gather 226 = .ok (.aload_n 0, 1) := by decide +kernel
theorem dX9_gather_227 : decode cX9_gather 227 = .ok (.getfield 46, 3) := by decide +kernel
theorem dX9_gather_230 : decode cX9_gather 230 = .ok (.iload_n 2, 1) := by decide +kernel
theorem dX9_gather_231 : decode cX9_gather 231 = .ok (.baload, 1) := by decide +kernel
theorem dX9_gather_232 : decode cX9_gather 232 = .ok (.ifCond .ne 6, 3) := by decide +kernel
theorem dX9_gather_235 : decode cX9_gather 235 = .ok (.goto 29, 3) := by decide +kernel
theorem dX9_gather_238 : decode cX9_gather 238 = .ok (.iload_n 1, 1) := by decide +kernel
theorem dX9_gather_239 : decode cX9_gather 239 = .ok (.aload_n 0, 1) := by decide +kernel
theorem dX9_gather_240 : decode cX9_gather 240 = .ok (.aload_n 0, 1) := by decide +kernel
theorem dX9_gather_241 : decode cX9_gather 241 = .ok (.getfield 36, 3) := by decide +kernel
theorem dX9_gather_244 : decode cX9_gather 244 = .ok (.iload_n 2, 1) := by decide +kernel
theorem dX9_gather_245 : decode cX9_gather 245 = .ok (.laload, 1) := by decide +kernel
theorem dX9_gather_246 : decode cX9_gather 246 = .ok (.invokevirtual 219, 3) := by decide +kernel
theorem dX9_gather_249 : decode cX9_gather 249 = .ok (.ior, 1) := by decide +kernel
theorem dX9_gather_250 : decode cX9_gather 250 = .ok (.istore_n 1, 1) := by decide +kernel
theorem dX9_gather_251 : decode cX9_gather 251 = .ok (.iload_n 1, 1) := by decide +kernel
theorem dX9_gather_252 : decode cX9_gather 252 = .ok (.aload_n 0, 1) := by decide +kernel
theorem dX9_gather_253 : decode cX9_gather 253 = .ok (.aload_n 0, 1) := by decide +kernel
theorem dX9_gather_254 : decode cX9_gather 254 = .ok (.getfield 39, 3) := by decide +kernel
theorem dX9_gather_257 : decode cX9_gather 257 = .ok (.iload_n 2, 1) := by decide +kernel
theorem dX9_gather_258 : decode cX9_gather 258 = .ok (.laload, 1) := by decide +kernel
theorem dX9_gather_259 : decode cX9_gather 259 = .ok (.invokevirtual 219, 3) := by decide +kernel
theorem dX9_gather_262 : decode cX9_gather 262 = .ok (.ior, 1) := by decide +kernel
theorem dX9_gather_263 : decode cX9_gather 263 = .ok (.istore_n 1, 1) := by decide +kernel
theorem dX9_gather_264 : decode cX9_gather 264 = .ok (.iinc 2 1, 3) := by decide +kernel
theorem dX9_gather_267 : decode cX9_gather 267 = .ok (.goto (-49), 3) := by decide +kernel
theorem dX9_gather_270 : decode cX9_gather 270 = .ok (.goto (-60), 3) := by decide +kernel
theorem dX9_gather_273 : decode cX9_gather 273 = .ok (.aload_n 0, 1) := by decide +kernel
theorem dX9_gather_274 : decode cX9_gather 274 = .ok (.invokevirtual 236, 3) := by decide +kernel
theorem dX9_gather_277 : decode cX9_gather 277 = .ok (.return_, 1) := by decide +kernel
theorem dX9_slide_0 : decode cX9_slide 0 = .ok (.iconst 0, 1) := by decide +kernel
theorem dX9_slide_1 : decode cX9_slide 1 = .ok (.istore_n 1, 1) := by decide +kernel
theorem dX9_slide_2 : decode cX9_slide 2 = .ok (.iconst 0, 1) := by decide +kernel
theorem dX9_slide_3 : decode cX9_slide 3 = .ok (.istore_n 2, 1) := by decide +kernel
theorem dX9_slide_4 : decode cX9_slide 4 = .ok (.iload_n 2, 1) := by decide +kernel
theorem dX9_slide_5 : decode cX9_slide 5 = .ok (.aload_n 0, 1) := by decide +kernel
theorem dX9_slide_6 : decode cX9_slide 6 = .ok (.getfield 143, 3) := by decide +kernel
theorem dX9_slide_9 : decode cX9_slide 9 = .ok (.if_icmp .ge 28, 3) := by decide +kernel
theorem dX9_slide_12 : decode cX9_slide 12 = .ok (.aload_n 0, 1) := by decide +kernel
theorem dX9_slide_13 : decode cX9_slide 13 = .ok (.getfield 52, 3) := by decide +kernel
theorem dX9_slide_16 : decode cX9_slide 16 = .ok (.iload_n 2, 1) := by decide +kernel
theorem dX9_slide_17 : decode cX9_slide 17 = .ok (.iload_n 1, 1) := by decide +kernel
theorem dX9_slide_18 : decode cX9_slide 18 = .ok (.iastore, 1) := by decide +kernel
theorem dX9_slide_19 : decode cX9_slide 19 = .ok (.aload_n 0, 1) := by decide +kernel
theorem dX9_slide_20 : decode cX9_slide 20 = .ok (.getfield 46, 3) := by decide +kernel
theorem dX9_slide_23 : decode cX9_slide 23 = .ok (.iload_n 2, 1) := by decide +kernel
theorem dX9_slide_24 : decode cX9_slide 24 = .ok (.baload, 1) := by decide +kernel
theorem dX9_slide_25 : decode cX9_slide 25 = .ok (.ifCond .eq 6, 3) := by decide +kernel
theorem dX9_slide_28 : decode cX9_slide 28 = .ok (.iinc 1 1, 3) := by decide +kernel
theorem dX9_slide_31 : decode cX9_slide 31 = .ok (.iinc 2 1, 3) := by decide +kernel
theorem dX9_slide_34 : decode cX9_slide 34 = .ok (.goto (-30), 3) := by decide +kernel
theorem dX9_slide_37 : decode cX9_slide 37 = .ok (.iconst 0, 1) := by decide +kernel
theorem dX9_slide_38 : decode cX9_slide 38 = .ok (.istore_n 2, 1) := by decide +kernel
theorem dX9_slide_39 : decode cX9_slide 39 = .ok (.iload_n 2, 1) := by decide +kernel
theorem dX9_slide_40 : decode cX9_slide 40 = .ok (.aload_n 0, 1) := by decide +kernel
theorem dX9_slide_41 : decode cX9_slide 41 = .ok (.getfield 143, 3) := by decide +kernel
theorem dX9_slide_44 : decode cX9_slide 44 = .ok (.if_icmp .ge 97, 3) := by decide +kernel
theorem dX9_slide_47 : decode cX9_slide 47 = .ok (.aload_n 0, 1) := by decide +kernel
theorem dX9_slide_48 : decode cX9_slide 48 = .ok (.getfield 46, 3) := by decide +kernel
theorem dX9_slide_51 : decode cX9_slide 51 = .ok (.iload_n 2, 1) := by decide +kernel
theorem dX9_slide_52 : decode cX9_slide 52 = .ok (.baload, 1) := by decide +kernel
theorem dX9_slide_53 : decode cX9_slide 53 = .ok (.ifCond .ne 6, 3) := by decide +kernel
theorem dX9_slide_56 : decode cX9_slide 56 = .ok (.goto 79, 3) := by decide +kernel
theorem dX9_slide_59 : decode cX9_slide 59 = .ok (.aload_n 0, 1) := by decide +kernel
theorem dX9_slide_60 : decode cX9_slide 60 = .ok (.getfield 42, 3) := by decide +kernel
theorem dX9_slide_63 : decode cX9_slide 63 = .ok (.aload_n 0, 1) := by decide +kernel
theorem dX9_slide_64 : decode cX9_slide 64 = .ok (.getfield 52, 3) := by decide +kernel
theorem dX9_slide_67 : decode cX9_slide 67 = .ok (.iload_n 2, 1) := by decide +kernel
theorem dX9_slide_68 : decode cX9_slide 68 = .ok (.iaload, 1) := by decide +kernel
theorem dX9_slide_69 : decode cX9_slide 69 = .ok (.aload_n 0, 1) := by decide +kernel
theorem dX9_slide_70 : decode cX9_slide 70 = .ok (.getfield 42, 3) := by decide +kernel
theorem dX9_slide_73 : decode cX9_slide 73 = .ok (.iload_n 2, 1) := by decide +kernel
theorem dX9_slide_74 : decode cX9_slide 74 = .ok (.baload, 1) := by decide +kernel
theorem dX9_slide_75 : decode cX9_slide 75 = .ok (.bastore, 1) := by decide +kernel
theorem dX9_slide_76 : decode cX9_slide 76 = .ok (.aload_n 0, 1) := by decide +kernel
theorem dX9_slide_77 : decode cX9_slide 77 = .ok (.getfield 36, 3) := by decide +kernel
theorem dX9_slide_80 : decode cX9_slide 80 = .ok (.aload_n 0, 1) := by decide +kernel
theorem dX9_slide_81 : decode cX9_slide 81 = .ok (.getfield 52, 3) := by decide +kernel
theorem dX9_slide_84 : decode cX9_slide 84 = .ok (.iload_n 2, 1) := by decide +kernel
theorem dX9_slide_85 : decode cX9_slide 85 = .ok (.iaload, 1) := by decide +kernel
theorem dX9_slide_86 : decode cX9_slide 86 = .ok (.aload_n 0, 1) := by decide +kernel
theorem dX9_slide_87 : decode cX9_slide 87 = .ok (.aload_n 0, 1) := by decide +kernel
theorem dX9_slide_88 : decode cX9_slide 88 = .ok (.getfield 36, 3) := by decide +kernel
theorem dX9_slide_91 : decode cX9_slide 91 = .ok (.iload_n 2, 1) := by decide +kernel
theorem dX9_slide_92 : decode cX9_slide 92 = .ok (.laload, 1) := by decide +kernel
theorem dX9_slide_93 : decode cX9_slide 93 = .ok (.invokevirtual 222, 3) := by decide +kernel
theorem dX9_slide_96 : decode cX9_slide 96 = .ok (.lastore, 1) := by decide +kernel
theorem dX9_slide_97 : decode cX9_slide 97 = .ok (.aload_n 0, 1) := by decide +kernel
theorem dX9_slide_98 : decode cX9_slide 98 = .ok (.getfield 39, 3) := by decide +kernel
theorem dX9_slide_101 : decode cX9_slide 101 = .ok (.aload_n 0, 1) := by decide +kernel
theorem dX9_slide_102 : decode cX9_slide 102 = .ok (.getfield 52, 3) := by decide +kernel
theorem dX9_slide_105 : decode cX9_slide 105 = .ok (.iload_n 2, 1) := by decide +kernel
theorem dX9_slide_106 : decode cX9_slide 106 = .ok (.iaload, 1) := by decide +kernel
theorem dX9_slide_107 : decode cX9_slide 107 = .ok (.aload_n 0, 1) := by decide +kernel
theorem dX9_slide_108 : decode cX9_slide 108 = .ok (.aload_n 0, 1) := by decide +kernel
theorem dX9_slide_109 : decode cX9_slide 109 = .ok (.getfield 39, 3) := by decide +kernel
theorem dX9_slide_112 : decode cX9_slide 112 = .ok (.iload_n 2, 1) := by decide +kernel
theorem dX9_slide_113 : decode cX9_slide 113 = .ok (.laload, 1) := by decide +kernel
theorem dX9_slide_114 : decode cX9_slide 114 = .ok (.invokevirtual 222, 3) := by decide +kernel
theorem dX9_slide_117 : decode cX9_slide 117 = .ok (.lastore, 1) := by decide +kernel
theorem dX9_slide_118 : decode cX9_slide 118 = .ok (.aload_n 0, 1) := by decide +kernel
theorem dX9_slide_119 : decode cX9_slide 119 = .ok (.getfield 49, 3) := by decide +kernel
theorem dX9_slide_122 : decode cX9_slide 122 = .ok (.aload_n 0, 1) := by decide +kernel
theorem dX9_slide_123 : decode cX9_slide 123 = .ok (.getfield 52, 3) := by decide +kernel
theorem dX9_slide_126 : decode cX9_slide 126 = .ok (.iload_n 2, 1) := by decide +kernel
theorem dX9_slide_127 : decode cX9_slide 127 = .ok (.iaload, 1) := by decide +kernel
theorem dX9_slide_128 : decode cX9_slide 128 = .ok (.aload_n 0, 1) := by decide +kernel
theorem dX9_slide_129 : decode cX9_slide 129 = .ok (.getfield 49, 3) := by decide +kernel
theorem dX9_slide_132 : decode cX9_slide 132 = .ok (.iload_n 2, 1) := by decide +kernel
theorem dX9_slide_133 : decode cX9_slide 133 = .ok (.iaload, 1) := by decide +kernel
theorem dX9_slide_134 : decode cX9_slide 134 = .ok (.iastore, 1) := by decide +kernel
theorem dX9_slide_135 : decode cX9_slide 135 = .ok (.iinc 2 1, 3) := by decide +kernel
theorem dX9_slide_138 : decode cX9_slide 138 = .ok (.goto (-99), 3) := by decide +kernel
theorem dX9_slide_141 : decode cX9_slide 141 = .ok (.aload_n 0, 1) := by decide +kernel
theorem dX9_slide_142 : decode cX9_slide 142 = .ok (.iload_n 1, 1) := by decide +kernel
theorem dX9_slide_143 : decode cX9_slide 143 = .ok (.putfield 143, 3) := by decide +kernel
theorem dX9_slide_146 : decode cX9_slide 146 = .ok (.aload_n 0, 1) := by decide +kernel
theorem dX9_slide_147 : decode cX9_slide 147 = .ok (.aload_n 0, 1) := by decide +kernel
theorem dX9_slide_148 : decode cX9_slide 148 = .ok (.getfield 32, 3) := by decide +kernel
theorem dX9_slide_151 : decode cX9_slide 151 = .ok (.bipush 8, 2) := by decide +kernel
theorem dX9_slide_153 : decode cX9_slide 153 = .ok (.invokevirtual 239, 3) := by decide +kernel
theorem dX9_slide_156 : decode cX9_slide 156 = .ok (.iconst 0, 1) := by decide +kernel
theorem dX9_slide_157 : decode cX9_slide 157 = .ok (.istore_n 2, 1) := by decide +kernel
theorem dX9_slide_158 : decode cX9_slide 158 = .ok (.iload_n 2, 1) := by decide +kernel
theorem dX9_slide_159 : decode cX9_slide 159 = .ok (.aload_n 0, 1) := by decide +kernel
theorem dX9_slide_160 : decode cX9_slide 160 = .ok (.getfield 7, 3) := by decide +kernel
theorem dX9_slide_163 : decode cX9_slide 163 = .ok (.if_icmp .ge 77, 3) := by decide +kernel
theorem dX9_slide_166 : decode cX9_slide 166 = .ok (.aload_n 0, 1) := by decide +kernel
theorem dX9_slide_167 : decode cX9_slide 167 = .ok (.getfield 28, 3) := by decide +kernel
theorem dX9_slide_170 : decode cX9_slide 170 = .ok (.iload_n 2, 1) := by decide +kernel
theorem dX9_slide_171 : decode cX9_slide 171 = .ok (.aaload, 1) := by decide +kernel
theorem dX9_slide_172 : decode cX9_slide 172 = .ok (.astore_n 3, 1) := by decide +kernel
theorem dX9_slide_173 : decode cX9_slide 173 = .ok (.aload_n 0, 1) := by decide +kernel
theorem dX9_slide_174 : decode cX9_slide 174 = .ok (.aload_n 3, 1) := by decide +kernel
theorem dX9_slide_175 : decode cX9_slide 175 = .ok (.getfield 105, 3) := by decide +kernel
theorem dX9_slide_178 : decode cX9_slide 178 = .ok (.bipush 16, 2) := by decide +kernel
theorem dX9_slide_180 : decode cX9_slide 180 = .ok (.invokevirtual 239, 3) := by decide +kernel
theorem dX9_slide_183 : decode cX9_slide 183 = .ok (.aload_n 0, 1) := by decide +kernel
theorem dX9_slide_184 : decode cX9_slide 184 = .ok (.aload_n 3, 1) := by decide +kernel
theorem dX9_slide_185 : decode cX9_slide 185 = .ok (.getfield 233, 3) := by decide +kernel
theorem dX9_slide_188 : decode cX9_slide 188 = .ok (.bipush 16, 2) := by decide +kernel
theorem dX9_slide_190 : decode cX9_slide 190 = .ok (.aload_n 3, 1) := by decide +kernel
theorem dX9_slide_191 : decode cX9_slide 191 = .ok (.getfield 121, 3) := by decide +kernel
theorem dX9_slide_194 : decode cX9_slide 194 = .ok (.imul, 1) := by decide +kernel
theorem dX9_slide_195 : decode cX9_slide 195 = .ok (.invokevirtual 239, 3) := by decide +kernel
theorem dX9_slide_198 : decode cX9_slide 198 = .ok (.aload_n 0, 1) := by decide +kernel
theorem dX9_slide_199 : decode cX9_slide 199 = .ok (.aload_n 3, 1) := by decide +kernel
theorem dX9_slide_200 : decode cX9_slide 200 = .ok (.getfield 152, 3) := by decide +kernel
theorem dX9_slide_203 : decode cX9_slide 203 = .ok (.aload_n 3, 1) := by decide +kernel
theorem dX9_slide_204 : decode cX9_slide 204 = .ok (.getfield 149, 3) := by decide +kernel
theorem dX9_slide_207 : decode cX9_slide 207 = .ok (.invokevirtual 239, 3) := by decide +kernel
theorem dX9_slide_210 : decode cX9_slide 210 = .ok (.aload_n 0, 1) := by decide +kernel
theorem dX9_slide_211 : decode cX9_slide 211 = .ok (.aload_n 3, 1) := by decide +kernel
theorem dX9_slide_212 : decode cX9_slide 212 = .ok (.getfield 175, 3) := by decide +kernel
theorem dX9_slide_215 : decode cX9_slide 215 = .ok (.aload_n 3, 1) := by decide +kernel
theorem dX9_slide_216 : decode cX9_slide 216 = .ok (.getfield 172, 3) := by decide +kernel
theorem dX9_slide_219 : decode cX9_slide 219 = .ok (.invokevirtual 239, 3) := by decide +kernel
theorem dX9_slide_222 : decode cX9_slide 222 = .ok (.aload_n 0, 1) := by decide +kernel
theorem dX9_slide_223 : decode cX9_slide 223 = .ok (.aload_n 3, 1) := by decide +kernel
theorem dX9_slide_224 : decode cX9_slide 224 = .ok (.getfield 178, 3) := by decide +kernel
theorem dX9_slide_227 : decode cX9_slide 227 = .ok (.aload_n 3, 1) := by decide +kernel
theorem dX9_slide_228 : decode cX9_slide 228 = .ok (.getfield 172, 3) := by decide +kernel
theorem dX9_slide_231 : decode cX9_slide 231 = .ok (.invokevirtual 239, 3) := by decide +kernel
theorem dX9_slide_234 : decode cX9_slide 234 = .ok (.iinc 2 1, 3) := by decide +kernel
theorem dX9_slide_237 : decode cX9_slide 237 = .ok (.goto (-79), 3) := by decide +kernel
theorem dX9_slide_240 : decode cX9_slide 240 = .ok (.return_, 1) := by decide +kernel
theorem dX9_put_0 : decode cX9_put 0 = .ok (.aload_n 0, 1) := by decide +kernel
theorem dX9_put_1 : decode cX9_put 1 = .ok (.iconst 0, 1) := by decide +kernel
theorem dX9_put_2 : decode cX9_put 2 = .ok (.putfield 59, 3) := by decide +kernel
theorem dX9_put_5 : decode cX9_put 5 = .ok (.aload_n 0, 1) := by decide +kernel
theorem dX9_put_6 : decode cX9_put 6 = .ok (.getfield 72, 3) := by decide +kernel
theorem dX9_put_9 : decode cX9_put 9 = .ok (.sipush 1000, 3) := by decide +kernel
theorem dX9_put_12 : decode cX9_put 12 = .ok (.if_icmp .ne 9, 3) := by decide +kernel
theorem dX9_put_15 : decode cX9_put 15 = .ok (.aload_n 0, 1) := by decide +kernel
theorem dX9_put_16 : decode cX9_put 16 = .ok (.iconst 1, 1) := by decide +kernel
theorem dX9_put_17 : decode cX9_put 17 = .ok (.invokevirtual 243, 3) := by decide +kernel
theorem dX9_put_20 : decode cX9_put 20 = .ok (.ireturn, 1) := by decide +kernel
theorem dX9_put_21 : decode cX9_put 21 = .ok (.aload_n 0, 1) := by decide +kernel
theorem dX9_put_22 : decode cX9_put 22 = .ok (.getfield 13, 3) := by decide +kernel
theorem dX9_put_25 : decode cX9_put 25 = .ok (.aload_n 0, 1) := by decide +kernel
theorem dX9_put_26 : decode cX9_put 26 = .ok (.getfield 72, 3) := by decide +kernel
theorem dX9_put_29 : decode cX9_put 29 = .ok (.iload_n 1, 1) := by decide +kernel
theorem dX9_put_30 : decode cX9_put 30 = .ok (.iastore, 1) := by decide +kernel
theorem dX9_put_31 : decode cX9_put 31 = .ok (.aload_n 0, 1) := by decide +kernel
theorem dX9_put_32 : decode cX9_put 32 = .ok (.getfield 17, 3) := by decide +kernel
theorem dX9_put_35 : decode cX9_put 35 = .ok (.aload_n 0, 1) := by decide +kernel
theorem dX9_put_36 : decode cX9_put 36 = .ok (.getfield 72, 3) := by decide +kernel
theorem dX9_put_39 : decode cX9_put 39 = .ok (.iload_n 2, 1) := by decide +kernel
theorem dX9_put_40 : decode cX9_put 40 = .ok (.iastore, 1) := by decide +kernel
theorem dX9_put_41 : decode cX9_put 41 = .ok (.aload_n 0, 1) := by decide +kernel
theorem dX9_put_42 : decode cX9_put 42 = .ok (.getfield 20, 3) := by decide +kernel
theorem dX9_put_45 : decode cX9_put 45 = .ok (.aload_n 0, 1) := by decide +kernel
theorem dX9_put_46 : decode cX9_put 46 = .ok (.getfield 72, 3) := by decide +kernel
theorem dX9_put_49 : decode cX9_put 49 = .ok (.iload_n 3, 1) := by decide +kernel
theorem dX9_put_50 : decode cX9_put 50 = .ok (.iastore, 1) := by decide +kernel
theorem dX9_put_51 : decode cX9_put 51 = .ok (.aload_n 0, 1) := by decide +kernel
theorem dX9_put_52 : decode cX9_put 52 = .ok (.getfield 23, 3) := by decide +kernel
theorem dX9_put_55 : decode cX9_put 55 = .ok (.aload_n 0, 1) := by decide +kernel
theorem dX9_put_56 : decode cX9_put 56 = .ok (.getfield 72, 3) := by decide +kernel
theorem dX9_put_59 : decode cX9_put 59 = .ok (.iload 4, 2) := by decide +kernel
theorem dX9_put_61 : decode cX9_put 61 = .ok (.iastore, 1) := by decide +kernel
theorem dX9_put_62 : decode cX9_put 62 = .ok (.aload_n 0, 1) := by decide +kernel
theorem dX9_put_63 : decode cX9_put 63 = .ok (.dup, 1) := by decide +kernel
theorem dX9_put_64 : decode cX9_put 64 = .ok (.getfield 72, 3) := by decide +kernel
theorem dX9_put_67 : decode cX9_put 67 = .ok (.iconst 1, 1) := by decide +kernel
theorem dX9_put_68 : decode cX9_put 68 = .ok (.iadd, 1) := by decide +kernel
theorem dX9_put_69 : decode cX9_put 69 = .ok (.putfield 72, 3) := by decide +kernel
theorem dX9_put_72 : decode cX9_put 72 = .ok (.aload_n 0, 1) := by decide +kernel
theorem dX9_put_73 : decode cX9_put 73 = .ok (.getfield 72, 3) := by decide +kernel
theorem dX9_put_76 : decode cX9_put 76 = .ok (.iconst 1, 1) := by decide +kernel
theorem dX9_put_77 : decode cX9_put 77 = .ok (.isub, 1) := by decide +kernel
theorem dX9_put_78 : decode cX9_put 78 = .ok (.ireturn, 1) := by decide +kernel
theorem dX9_noTask_0 : decode cX9_noTask 0 = .ok (.iload_n 1, 1) := by decide +kernel
theorem dX9_noTask_1 : decode cX9_noTask 1 = .ok (.ifCond .lt 11, 3) := by decide +kernel
theorem dX9_noTask_4 : decode cX9_noTask 4 = .ok (.iload_n 1, 1) := by decide +kernel
theorem dX9_noTask_5 : decode cX9_noTask 5 = .ok (.aload_n 0, 1) := by decide +kernel
theorem dX9_noTask_6 : decode cX9_noTask 6 = .ok (.getfield 7, 3) := by decide +kernel
theorem dX9_noTask_9 : decode cX9_noTask 9 = .ok (.if_icmp .lt 7, 3) := by decide +kernel
theorem dX9_noTask_12 : decode cX9_noTask 12 = .ok (.iconst 1, 1) := by decide +kernel
theorem dX9_noTask_13 : decode cX9_noTask 13 = .ok (.goto 4, 3) := by decide +kernel
theorem dX9_noTask_16 : decode cX9_noTask 16 = .ok (.iconst 0, 1) := by decide +kernel
theorem dX9_noTask_17 : decode cX9_noTask 17 = .ok (.ireturn, 1) := by decide +kernel
theorem dX9_run_0 : decode cX9_run 0 = .ok (.aload_n 0, 1) := by decide +kernel
theorem dX9_run_1 : decode cX9_run 1 = .ok (.iconst 0, 1) := by decide +kernel
theorem dX9_run_2 : decode cX9_run 2 = .ok (.putfield 59, 3) := by decide +kernel
theorem dX9_run_5 : decode cX9_run 5 = .ok (.aload_n 0, 1) := by decide +kernel
theorem dX9_run_6 : decode cX9_run 6 = .ok (.iload_n 1, 1) := by decide +kernel
theorem dX9_run_7 : decode cX9_run 7 = .ok (.invokevirtual 247, 3) := by decide +kernel
theorem dX9_run_10 : decode cX9_run 10 = .ok (.ifCond .eq 9, 3) := by decide +kernel
theorem dX9_run_13 : decode cX9_run 13 = .ok (.aload_n 0, 1) := by decide +kernel
theorem dX9_run_14 : decode cX9_run 14 = .ok (.iconst 1, 1) := by decide +kernel
theorem dX9_run_15 : decode cX9_run 15 = .ok (.invokevirtual 243, 3) := by decide +kernel
theorem dX9_run_18 : decode cX9_run 18 = .ok (.ireturn, 1) := by decide +kernel
theorem dX9_run_19 : decode cX9_run 19 = .ok (.iload_n 2, 1) := by decide +kernel
theorem dX9_run_20 : decode cX9_run 20 = .ok (.iconst 1, 1) := by decide +kernel
theorem dX9_run_21 : decode cX9_run 21 = .ok (.if_icmp .lt 10, 3) := by decide +kernel
theorem dX9_run_24 : decode cX9_run 24 = .ok (.iload_n 2, 1) := by decide +kernel
theorem dX9_run_25 : decode cX9_run 25 = .ok (.sipush 500, 3) := by decide +kernel
theorem dX9_run_28 : decode cX9_run 28 = .ok (.if_icmp .le 9, 3) := by decide +kernel
theorem dX9_run_31 : decode cX9_run 31 = .ok (.aload_n 0, 1) := by decide +kernel
theorem dX9_run_32 : decode cX9_run 32 = .ok (.iconst 2, 1) := by decide +kernel
theorem dX9_run_33 : decode cX9_run 33 = .ok (.invokevirtual 243, 3) := by decide +kernel
theorem dX9_run_36 : decode cX9_run 36 = .ok (.ireturn, 1) := by decide +kernel
theorem dX9_run_37 : decode cX9_run 37 = .ok (.iconst 0, 1) := by decide +kernel
theorem dX9_run_38 : decode cX9_run 38 = .ok (.istore_n 3, 1) := by decide +kernel
theorem dX9_run_39 : decode cX9_run 39 = .ok (.iload_n 3, 1) := by decide +kernel
theorem dX9_run_40 : decode cX9_run 40 = .ok (.iload_n 2, 1) := by decide +kernel
theorem dX9_run_41 : decode cX9_run 41 = .ok (.if_icmp .ge 32, 3) := by decide +kernel
theorem dX9_run_44 : decode cX9_run 44 = .ok (.aload_n 0, 1) := by decide +kernel
theorem dX9_run_45 : decode cX9_run 45 = .ok (.getfield 28, 3) := by decide +kernel
theorem dX9_run_48 : decode cX9_run 48 = .ok (.iload_n 1, 1) := by decide +kernel
theorem dX9_run_49 : decode cX9_run 49 = .ok (.aaload, 1) := by decide +kernel
theorem dX9_run_50 : decode cX9_run 50 = .ok (.getfield 208, 3) := by decide +kernel
theorem dX9_run_53 : decode cX9_run 53 = .ok (.iconst 1, 1) := by decide +kernel
theorem dX9_run_54 : decode cX9_run 54 = .ok (.if_icmp .ne 19, 3) := by decide +kernel
theorem dX9_run_57 : decode cX9_run 57 = .ok (.aload_n 0, 1) := by decide +kernel
theorem dX9_run_58 : decode cX9_run 58 = .ok (.aload_n 0, 1) := by decide +kernel
theorem dX9_run_59 : decode cX9_run 59 = .ok (.getfield 28, 3) := by decide +kernel
theorem dX9_run_62 : decode cX9_run 62 = .ok (.iload_n 1, 1) := by decide +kernel
theorem dX9_run_63 : decode cX9_run 63 = .ok (.aaload, 1) := by decide +kernel
theorem dX9_run_64 : decode cX9_run 64 = .ok (.invokevirtual 250, 3) := by decide +kernel
theorem dX9_run_67 : decode cX9_run 67 = .ok (.iinc 3 1, 3) := by decide +kernel
theorem dX9_run_70 : decode cX9_run 70 = .ok (.goto (-31), 3) := by decide +kernel
theorem dX9_run_73 : decode cX9_run 73 = .ok (.iload_n 3, 1) := by decide +kernel
theorem dX9_run_74 : decode cX9_run 74 = .ok (.ireturn, 1) := by decide +kernel
theorem dX9_turn_0 : decode cX9_turn 0 = .ok (.aload_n 0, 1) := by decide +kernel
theorem dX9_turn_1 : decode cX9_turn 1 = .ok (.iconst 0, 1) := by decide +kernel
theorem dX9_turn_2 : decode cX9_turn 2 = .ok (.putfield 59, 3) := by decide +kernel
theorem dX9_turn_5 : decode cX9_turn 5 = .ok (.iload_n 1, 1) := by decide +kernel
theorem dX9_turn_6 : decode cX9_turn 6 = .ok (.iconst 1, 1) := by decide +kernel
theorem dX9_turn_7 : decode cX9_turn 7 = .ok (.if_icmp .lt 9, 3) := by decide +kernel
theorem dX9_turn_10 : decode cX9_turn 10 = .ok (.iload_n 1, 1) := by decide +kernel
theorem dX9_turn_11 : decode cX9_turn 11 = .ok (.bipush 100, 2) := by decide +kernel
theorem dX9_turn_13 : decode cX9_turn 13 = .ok (.if_icmp .le 9, 3) := by decide +kernel
theorem dX9_turn_16 : decode cX9_turn 16 = .ok (.aload_n 0, 1) := by decide +kernel
theorem dX9_turn_17 : decode cX9_turn 17 = .ok (.iconst 1, 1) := by decide +kernel
theorem dX9_turn_18 : decode cX9_turn 18 = .ok (.invokevirtual 243, 3) := by decide +kernel
theorem dX9_turn_21 : decode cX9_turn 21 = .ok (.ireturn, 1) := by decide +kernel
theorem dX9_turn_22 : decode cX9_turn 22 = .ok (.aload_n 0, 1) := by decide +kernel
theorem dX9_turn_23 : decode cX9_turn 23 = .ok (.getfield 66, 3) := by decide +kernel
theorem dX9_turn_26 : decode cX9_turn 26 = .ok (.istore_n 2, 1) := by decide +kernel
theorem dX9_turn_27 : decode cX9_turn 27 = .ok (.iconst 0, 1) := by decide +kernel
theorem dX9_turn_28 : decode cX9_turn 28 = .ok (.istore_n 3, 1) := by decide +kernel
theorem dX9_turn_29 : decode cX9_turn 29 = .ok (.iload_n 3, 1) := by decide +kernel
theorem dX9_turn_30 : decode cX9_turn 30 = .ok (.iload_n 1, 1) := by decide +kernel
theorem dX9_turn_31 : decode cX9_turn 31 = .ok (.if_icmp .ge 52, 3) := by decide +kernel
theorem dX9_turn_34 : decode cX9_turn 34 = .ok (.iconst 0, 1) := by decide +kernel
theorem dX9_turn_35 : decode cX9_turn 35 = .ok (.istore 4, 2) := by decide +kernel
theorem dX9_turn_37 : decode cX9_turn 37 = .ok (.iload 4, 2) := by decide +kernel
theorem dX9_turn_39 : decode cX9_turn 39 = .ok (.aload_n 0, 1) := by decide +kernel
theorem dX9_turn_40 : decode cX9_turn 40 = .ok (.getfield 7, 3) := by decide +kernel
theorem dX9_turn_43 : decode cX9_turn 43 = .ok (.if_icmp .ge 34, 3) := by decide +kernel
theorem dX9_turn_46 : decode cX9_turn 46 = .ok (.aload_n 0, 1) := by decide +kernel
theorem dX9_turn_47 : decode cX9_turn 47 = .ok (.getfield 28, 3) := by decide +kernel
theorem dX9_turn_50 : decode cX9_turn 50 = .ok (.iload 4, 2) := by decide +kernel
theorem dX9_turn_52 : decode cX9_turn 52 = .ok (.aaload, 1) := by decide +kernel
theorem dX9_turn_53 : decode cX9_turn 53 = .ok (.getfield 208, 3) := by decide +kernel
theorem dX9_turn_56 : decode cX9_turn 56 = .ok (.iconst 1, 1) := by decide +kernel
theorem dX9_turn_57 : decode cX9_turn 57 = .ok (.if_icmp .ne 14, 3) := by decide +kernel
theorem dX9_turn_60 : decode cX9_turn 60 = .ok (.aload_n 0, 1) := by decide +kernel
theorem dX9_turn_61 : decode cX9_turn 61 = .ok (.aload_n 0, 1) := by decide +kernel
theorem dX9_turn_62 : decode cX9_turn 62 = .ok (.getfield 28, 3) := by decide +kernel
theorem dX9_turn_65 : decode cX9_turn 65 = .ok (.iload 4, 2) := by decide +kernel
theorem dX9_turn_67 : decode cX9_turn 67 = .ok (.aaload, 1) := by decide +kernel
theorem dX9_turn_68 : decode cX9_turn 68 = .ok (.invokevirtual 250, 3) := by decide +kernel
theorem dX9_turn_71 : decode cX9_turn 71 = .ok (.iinc 4 1, 3) := by decide +kernel
theorem dX9_turn_74 : decode cX9_turn 74 = .ok (.goto (-37), 3) := by decide +kernel
theorem dX9_turn_77 : decode cX9_turn 77 = .ok (.iinc 3 1, 3) := by decide +kernel
theorem dX9_turn_80 : decode cX9_turn 80 = .ok (.goto (-51), 3) := by decide +kernel
theorem dX9_turn_83 : decode cX9_turn 83 = .ok (.aload_n 0, 1) := by decide +kernel
theorem dX9_turn_84 : decode cX9_turn 84 = .ok (.getfield 66, 3) := by decide +kernel
theorem dX9_turn_87 : decode cX9_turn 87 = .ok (.iload_n 2, 1) := by decide +kernel
theorem dX9_turn_88 : decode cX9_turn 88 = .ok (.isub, 1) := by decide +kernel
theorem dX9_turn_89 : decode cX9_turn 89 = .ok (.ireturn, 1) := by decide +kernel
theorem dX9_thread_0 : decode cX9_thread 0 = .ok (.aload_n 0, 1) := by decide +kernel
theorem dX9_thread_1 : decode cX9_thread 1 = .ok (.iconst 0, 1) := by decide +kernel
theorem dX9_thread_2 : decode cX9_thread 2 = .ok (.putfield 59, 3) := by decide +kernel
theorem dX9_thread_5 : decode cX9_thread 5 = .ok (.aload_n 0, 1) := by decide +kernel
theorem dX9_thread_6 : decode cX9_thread 6 = .ok (.iload_n 1, 1) := by decide +kernel
theorem dX9_thread_7 : decode cX9_thread 7 = .ok (.invokevirtual 247, 3) := by decide +kernel
theorem dX9_thread_10 : decode cX9_thread 10 = .ok (.ifCond .eq 9, 3) := by decide +kernel
theorem dX9_thread_13 : decode cX9_thread 13 = .ok (.aload_n 0, 1) := by decide +kernel
theorem dX9_thread_14 : decode cX9_thread 14 = .ok (.iconst 1, 1) := by decide +kernel
theorem dX9_thread_15 : decode cX9_thread 15 = .ok (.invokevirtual 243, 3) := by decide +kernel
theorem dX9_thread_18 : decode cX9_thread 18 = .ok (.ireturn, 1) := by decide +kernel
theorem dX9_thread_19 : decode cX9_thread 19 = .ok (.aload_n 0, 1) := by decide +kernel
theorem dX9_thread_20 : decode cX9_thread 20 = .ok (.getfield 28, 3) := by decide +kernel
theorem dX9_thread_23 : decode cX9_thread 23 = .ok (.iload_n 1, 1) := by decide +kernel
theorem dX9_thread_24 : decode cX9_thread 24 = .ok (.aaload, 1) := by decide +kernel
theorem dX9_thread_25 : decode cX9_thread 25 = .ok (.astore_n 3, 1) := by decide +kernel
theorem dX9_thread_26 : decode cX9_thread 26 = .ok (.iload_n 2, 1) := by decide +kernel
theorem dX9_thread_27 : decode cX9_thread 27 = .ok (.tableswitch 96 0 7 #[45, 50, 55, 60, 65, 70, 75, 80], 45) := by decide +kernel
theorem dX9_thread_72 : decode cX9_thread 72 = .ok (.aload_n 3, 1) := by decide +kernel
theorem dX9_thread_73 : decode cX9_thread 73 = .ok (.getfield 208, 3) := by decide +kernel
theorem dX9_thread_76 : decode cX9_thread 76 = .ok (.ireturn, 1) := by decide +kernel
theorem dX9_thread_77 : decode cX9_thread 77 = .ok (.aload_n 3, 1) := by decide +kernel
theorem dX9_thread_78 : decode cX9_thread 78 = .ok (.getfield 254, 3) := by decide +kernel
theorem dX9_thread_81 : decode cX9_thread 81 = .ok (.ireturn, 1) := by decide +kernel
theorem dX9_thread_82 : decode cX9_thread 82 = .ok (.aload_n 3, 1) := by decide +kernel
theorem dX9_thread_83 : decode cX9_thread 83 = .ok (.getfield 69, 3) := by decide +kernel
theorem dX9_thread_86 : decode cX9_thread 86 = .ok (.ireturn, 1) := by decide +kernel
theorem dX9_thread_87 : decode cX9_thread 87 = .ok (.aload_n 3, 1) := by decide +kernel
theorem dX9_thread_88 : decode cX9_thread 88 = .ok (.getfield 124, 3) := by decide +kernel
theorem dX9_thread_91 : decode cX9_thread 91 = .ok (.ireturn, 1) := by decide +kernel
theorem dX9_thread_92 : decode cX9_thread 92 = .ok (.aload_n 3, 1) := by decide +kernel
theorem dX9_thread_93 : decode cX9_thread 93 = .ok (.getfield 121, 3) := by decide +kernel
theorem dX9_thread_96 : decode cX9_thread 96 = .ok (.ireturn, 1) := by decide +kernel
theorem dX9_thread_97 : decode cX9_thread 97 = .ok (.aload_n 3, 1) := by decide +kernel
theorem dX9_thread_98 : decode cX9_thread 98 = .ok (.getfield 149, 3) := by decide +kernel
theorem dX9_thread_101 : decode cX9_thread 101 = .ok (.ireturn, 1) := by decide +kernel
theorem dX9_thread_102 : decode cX9_thread 102 = .ok (.aload_n 3, 1) := by decide +kernel
theorem dX9_thread_103 : decode cX9_thread 103 = .ok (.getfield 172, 3) := by decide +kernel
theorem dX9_thread_106 : decode cX9_thread 106 = .ok (.ireturn, 1) := by decide +kernel
theorem dX9_thread_107 : decode cX9_thread 107 = .ok (.aload_n 3, 1) := by decide +kernel
theorem dX9_thread_108 : decode cX9_thread 108 = .ok (.invokevirtual 87, 3) := by decide +kernel
theorem dX9_thread_111 : decode cX9_thread 111 = .ok (.ifCond .ge 7, 3) := by decide +kernel
theorem dX9_thread_114 : decode cX9_thread 114 = .ok (.iconst (-1), 1) := by decide +kernel
theorem dX9_thread_115 : decode cX9_thread 115 = .ok (.goto 7, 3) := by decide +kernel
theorem dX9_thread_118 : decode cX9_thread 118 = .ok (.aload_n 3, 1) := by decide +kernel
theorem dX9_thread_119 : decode cX9_thread 119 = .ok (.getfield 155, 3) := by decide +kernel
theorem dX9_thread_122 : decode cX9_thread 122 = .ok (.ireturn, 1) := by decide +kernel
theorem dX9_thread_123 : decode cX9_thread 123 = .ok (.aload_n 0, 1) := by decide +kernel
theorem dX9_thread_124 : decode cX9_thread 124 = .ok (.iconst 2, 1) := by decide +kernel
theorem dX9_thread_125 : decode cX9_thread 125 = .ok (.invokevirtual 243, 3) := by decide +kernel
theorem dX9_thread_128 : decode cX9_thread 128 = .ok (.ireturn, 1) := by decide +kernel
theorem dX9_register_0 : decode cX9_register 0 = .ok (.aload_n 0, 1) := by decide +kernel
theorem dX9_register_1 : decode cX9_register 1 = .ok (.iconst 0, 1) := by decide +kernel
theorem dX9_register_2 : decode cX9_register 2 = .ok (.putfield 59, 3) := by decide +kernel
theorem dX9_register_5 : decode cX9_register 5 = .ok (.aload_n 0, 1) := by decide +kernel
theorem dX9_register_6 : decode cX9_register 6 = .ok (.iload_n 1, 1) := by decide +kernel
theorem dX9_register_7 : decode cX9_register 7 = .ok (.invokevirtual 247, 3) := by decide +kernel
theorem dX9_register_10 : decode cX9_register 10 = .ok (.ifCond .ne 10, 3) := by decide +kernel
theorem dX9_register_13 : decode cX9_register 13 = .ok (.iload_n 2, 1) := by decide +kernel
theorem dX9_register_14 : decode cX9_register 14 = .ok (.invokestatic 101, 3) := by decide +kernel
theorem dX9_register_17 : decode cX9_register 17 = .ok (.ifCond .eq 10, 3) := by decide +kernel
theorem dX9_register_20 : decode cX9_register 20 = .ok (.aload_n 0, 1) := by decide +kernel
theorem dX9_register_21 : decode cX9_register 21 = .ok (.iconst 1, 1) := by decide +kernel
theorem dX9_register_22 : decode cX9_register 22 = .ok (.invokevirtual 243, 3) := by decide +kernel
theorem dX9_register_25 : decode cX9_register 25 = .ok (.i2l, 1) := by decide +kernel
theorem dX9_register_26 : decode cX9_register 26 = .ok (.lreturn, 1) := by decide +kernel
theorem dX9_register_27 : decode cX9_register 27 = .ok (.aload_n 0, 1) := by decide +kernel
theorem dX9_register_28 : decode cX9_register 28 = .ok (.getfield 28, 3) := by decide +kernel
theorem dX9_register_31 : decode cX9_register 31 = .ok (.iload_n 1, 1) := by decide +kernel
theorem dX9_register_32 : decode cX9_register 32 = .ok (.aaload, 1) := by decide +kernel
theorem dX9_register_33 : decode cX9_register 33 = .ok (.getfield 105, 3) := by decide +kernel
theorem dX9_register_36 : decode cX9_register 36 = .ok (.iload_n 2, 1) := by decide +kernel
theorem dX9_register_37 : decode cX9_register 37 = .ok (.laload, 1) := by decide +kernel
theorem dX9_register_38 : decode cX9_register 38 = .ok (.lreturn, 1) := by decide +kernel
theorem dX9_global_0 : decode cX9_global 0 = .ok (.aload_n 0, 1) := by decide +kernel
theorem dX9_global_1 : decode cX9_global 1 = .ok (.iconst 0, 1) := by decide +kernel
theorem dX9_global_2 : decode cX9_global 2 = .ok (.putfield 59, 3) := by decide +kernel
theorem dX9_global_5 : decode cX9_global 5 = .ok (.iload_n 1, 1) := by decide +kernel
theorem dX9_global_6 : decode cX9_global 6 = .ok (.invokestatic 118, 3) := by decide +kernel
theorem dX9_global_9 : decode cX9_global 9 = .ok (.ifCond .eq 12, 3) := by decide +kernel
theorem dX9_global_12 : decode cX9_global 12 = .ok (.aload_n 0, 1) := by decide +kernel
theorem dX9_global_13 : decode cX9_global 13 = .ok (.iconst 1, 1) := by decide +kernel
theorem dX9_global_14 : decode cX9_global 14 = .ok (.invokevirtual 243, 3) := by decide +kernel
theorem dX9_global_17 : decode cX9_global 17 = .ok (.i2l, 1) := by decide +kernel
theorem dX9_global_18 : decode cX9_global 18 = .ok (.goto 9, 3) := by decide +kernel
theorem dX9_global_21 : decode cX9_global 21 = .ok (.aload_n 0, 1) := by decide +kernel
theorem dX9_global_22 : decode cX9_global 22 = .ok (.getfield 32, 3) := by decide +kernel
theorem dX9_global_25 : decode cX9_global 25 = .ok (.iload_n 1, 1) := by decide +kernel
theorem dX9_global_26 : decode cX9_global 26 = .ok (.laload, 1) := by decide +kernel
theorem dX9_global_27 : decode cX9_global 27 = .ok (.lreturn, 1) := by decide +kernel
theorem dX9_place__0 : decode cX9_place_ 0 = .ok (.aload_n 0, 1) := by decide +kernel
theorem dX9_place__1 : decode cX9_place_ 1 = .ok (.iconst 0, 1) := by decide +kernel
theorem dX9_place__2 : decode cX9_place_ 2 = .ok (.putfield 59, 3) := by decide +kernel
theorem dX9_place__5 : decode cX9_place_ 5 = .ok (.iload_n 1, 1) := by decide +kernel
theorem dX9_place__6 : decode cX9_place_ 6 = .ok (.ifCond .lt 11, 3) := by decide +kernel
theorem dX9_place__9 : decode cX9_place_ 9 = .ok (.iload_n 1, 1) := by decide +kernel
theorem dX9_place__10 : decode cX9_place_ 10 = .ok (.aload_n 0, 1) := by decide +kernel
theorem dX9_place__11 : decode cX9_place_ 11 = .ok (.getfield 143, 3) := by decide +kernel
theorem dX9_place__14 : decode cX9_place_ 14 = .ok (.if_icmp .lt 10, 3) := by decide +kernel
theorem dX9_place__17 : decode cX9_place_ 17 = .ok (.aload_n 0, 1) := by decide +kernel
theorem dX9_place__18 : decode cX9_place_ 18 = .ok (.iconst 1, 1) := by decide +kernel
theorem dX9_place__19 : decode cX9_place_ 19 = .ok (.invokevirtual 243, 3) := by decide +kernel
theorem dX9_place__22 : decode cX9_place_ 22 = .ok (.i2l, 1) := by decide +kernel
theorem dX9_place__23 : decode cX9_place_ 23 = .ok (.lreturn, 1) := by decide +kernel
theorem dX9_place__24 : decode cX9_place_ 24 = .ok (.iload_n 2, 1) := by decide +kernel
theorem dX9_place__25 : decode cX9_place_ 25 = .ok (.tableswitch 77 0 2 #[27, 44, 51], 27) := by decide +kernel
theorem dX9_place__52 : decode cX9_place_ 52 = .ok (.aload_n 0, 1) := by decide +kernel
theorem dX9_place__53 : decode cX9_place_ 53 = .ok (.getfield 42, 3) := by decide +kernel
theorem dX9_place__56 : decode cX9_place_ 56 = .ok (.iload_n 1, 1) := by decide +kernel
theorem dX9_place__57 : decode cX9_place_ 57 = .ok (.baload, 1) := by decide +kernel
theorem dX9_place__58 : decode cX9_place_ 58 = .ok (.ifCond .eq 7, 3) := by decide +kernel
theorem dX9_place__61 : decode cX9_place_ 61 = .ok (.lconst 1, 1) := by decide +kernel
theorem dX9_place__62 : decode cX9_place_ 62 = .ok (.goto 6, 3) := by decide +kernel
theorem dX9_place__65 : decode cX9_place_ 65 = .ok (.ldc2_w 141, 3) := by decide +kernel
theorem dX9_place__68 : decode cX9_place_ 68 = .ok (.lreturn, 1) := by decide +kernel
theorem dX9_place__69 : decode cX9_place_ 69 = .ok (.aload_n 0, 1) := by decide +kernel
theorem dX9_place__70 : decode cX9_place_ 70 = .ok (.getfield 36, 3) := by decide +kernel
theorem dX9_place__73 : decode cX9_place_ 73 = .ok (.iload_n 1, 1) := by decide +kernel
theorem dX9_place__74 : decode cX9_place_ 74 = .ok (.laload, 1) := by decide +kernel
theorem dX9_place__75 : decode cX9_place_ 75 = .ok (.lreturn, 1) := by decide +kernel
theorem dX9_place__76 : decode cX9_place_ 76 = .ok (.aload_n 0, 1) := by decide +kernel
theorem dX9_place__77 : decode cX9_place_ 77 = .ok (.getfield 42, 3) := by decide +kernel
theorem dX9_place__80 : decode cX9_place_ 80 = .ok (.iload_n 1, 1) := by decide +kernel
theorem dX9_place__81 : decode cX9_place_ 81 = .ok (.baload, 1) := by decide +kernel
theorem dX9_place__82 : decode cX9_place_ 82 = .ok (.ifCond .eq 12, 3) := by decide +kernel
theorem dX9_place__85 : decode cX9_place_ 85 = .ok (.aload_n 0, 1) := by decide +kernel
theorem dX9_place__86 : decode cX9_place_ 86 = .ok (.getfield 39, 3) := by decide +kernel
theorem dX9_place__89 : decode cX9_place_ 89 = .ok (.iload_n 1, 1) := by decide +kernel
theorem dX9_place__90 : decode cX9_place_ 90 = .ok (.laload, 1) := by decide +kernel
theorem dX9_place__91 : decode cX9_place_ 91 = .ok (.goto 10, 3) := by decide +kernel
theorem dX9_place__94 : decode cX9_place_ 94 = .ok (.aload_n 0, 1) := by decide +kernel
theorem dX9_place__95 : decode cX9_place_ 95 = .ok (.getfield 49, 3) := by decide +kernel
theorem dX9_place__98 : decode cX9_place_ 98 = .ok (.iload_n 1, 1) := by decide +kernel
theorem dX9_place__99 : decode cX9_place_ 99 = .ok (.iaload, 1) := by decide +kernel
theorem dX9_place__100 : decode cX9_place_ 100 = .ok (.i2l, 1) := by decide +kernel
theorem dX9_place__101 : decode cX9_place_ 101 = .ok (.lreturn, 1) := by decide +kernel
theorem dX9_place__102 : decode cX9_place_ 102 = .ok (.aload_n 0, 1) := by decide +kernel
theorem dX9_place__103 : decode cX9_place_ 103 = .ok (.iconst 2, 1) := by decide +kernel
theorem dX9_place__104 : decode cX9_place_ 104 = .ok (.invokevirtual 243, 3) := by decide +kernel
theorem dX9_place__107 : decode cX9_place_ 107 = .ok (.i2l, 1) := by decide +kernel
theorem dX9_place__108 : decode cX9_place_ 108 = .ok (.lreturn, 1) := by decide +kernel
theorem dX9_output_0 : decode cX9_output 0 = .ok (.aload_n 0, 1) := by decide +kernel
theorem dX9_output_1 : decode cX9_output 1 = .ok (.iconst 0, 1) := by decide +kernel
theorem dX9_output_2 : decode cX9_output 2 = .ok (.putfield 59, 3) := by decide +kernel
theorem dX9_output_5 : decode cX9_output 5 = .ok (.iload_n 1, 1) := by decide +kernel
theorem dX9_output_6 : decode cX9_output 6 = .ok (.ifCond .lt 11, 3) := by decide +kernel
theorem dX9_output_9 : decode cX9_output 9 = .ok (.iload_n 1, 1) := by decide +kernel
theorem dX9_output_10 : decode cX9_output 10 = .ok (.aload_n 0, 1) := by decide +kernel
theorem dX9_output_11 : decode cX9_output 11 = .ok (.getfield 216, 3) := by decide +kernel
theorem dX9_output_14 : decode cX9_output 14 = .ok (.if_icmp .lt 11, 3) := by decide +kernel
theorem dX9_output_17 : decode cX9_output 17 = .ok (.aload_n 0, 1) := by decide +kernel
theorem dX9_output_18 : decode cX9_output 18 = .ok (.iconst 1, 1) := by decide +kernel
theorem dX9_output_19 : decode cX9_output 19 = .ok (.invokevirtual 243, 3) := by decide +kernel
theorem dX9_output_22 : decode cX9_output 22 = .ok (.goto 9, 3) := by decide +kernel
theorem dX9_output_25 : decode cX9_output 25 = .ok (.aload_n 0, 1) := by decide +kernel
theorem dX9_output_26 : decode cX9_output 26 = .ok (.getfield 55, 3) := by decide +kernel
theorem dX9_output_29 : decode cX9_output 29 = .ok (.iload_n 1, 1) := by decide +kernel
theorem dX9_output_30 : decode cX9_output 30 = .ok (.iaload, 1) := by decide +kernel
theorem dX9_output_31 : decode cX9_output 31 = .ok (.ireturn, 1) := by decide +kernel
theorem dX9_collect_0 : decode cX9_collect 0 = .ok (.aload_n 0, 1) := by decide +kernel
theorem dX9_collect_1 : decode cX9_collect 1 = .ok (.iconst 0, 1) := by decide +kernel
theorem dX9_collect_2 : decode cX9_collect 2 = .ok (.putfield 59, 3) := by decide +kernel
theorem dX9_collect_5 : decode cX9_collect 5 = .ok (.aload_n 0, 1) := by decide +kernel
theorem dX9_collect_6 : decode cX9_collect 6 = .ok (.invokevirtual 146, 3) := by decide +kernel
theorem dX9_collect_9 : decode cX9_collect 9 = .ok (.aload_n 0, 1) := by decide +kernel
theorem dX9_collect_10 : decode cX9_collect 10 = .ok (.getfield 143, 3) := by decide +kernel
theorem dX9_collect_13 : decode cX9_collect 13 = .ok (.ireturn, 1) := by decide +kernel
theorem dX9_count_0 : decode cX9_count 0 = .ok (.aload_n 0, 1) := by decide +kernel
theorem dX9_count_1 : decode cX9_count 1 = .ok (.iconst 0, 1) := by decide +kernel
theorem dX9_count_2 : decode cX9_count 2 = .ok (.putfield 59, 3) := by decide +kernel
theorem dX9_count_5 : decode cX9_count 5 = .ok (.iconst 0, 1) := by decide +kernel
theorem dX9_count_6 : decode cX9_count 6 = .ok (.istore_n 2, 1) := by decide +kernel
theorem dX9_count_7 : decode cX9_count 7 = .ok (.iconst 0, 1) := by decide +kernel
theorem dX9_count_8 : decode cX9_count 8 = .ok (.istore_n 3, 1) := by decide +kernel
theorem dX9_count_9 : decode cX9_count 9 = .ok (.iconst 0, 1) := by decide +kernel
theorem dX9_count_10 : decode cX9_count 10 = .ok (.istore 4, 2) := by decide +kernel
theorem dX9_count_12 : decode cX9_count 12 = .ok (.iload 4, 2) := by decide +kernel
theorem dX9_count_14 : decode cX9_count 14 = .ok (.aload_n 0, 1) := by decide +kernel
theorem dX9_count_15 : decode cX9_count 15 = .ok (.getfield 7, 3) := by decide +kernel
theorem dX9_count_18 : decode cX9_count 18 = .ok (.if_icmp .ge 43, 3) := by decide +kernel
theorem dX9_count_21 : decode cX9_count 21 = .ok (.aload_n 0, 1) := by decide +kernel
theorem dX9_count_22 : decode cX9_count 22 = .ok (.getfield 28, 3) := by decide +kernel
theorem dX9_count_25 : decode cX9_count 25 = .ok (.iload 4, 2) := by decide +kernel
theorem dX9_count_27 : decode cX9_count 27 = .ok (.aaload, 1) := by decide +kernel
theorem dX9_count_28 : decode cX9_count 28 = .ok (.getfield 208, 3) := by decide +kernel
theorem dX9_count_31 : decode cX9_count 31 = .ok (.iconst 1, 1) := by decide +kernel
theorem dX9_count_32 : decode cX9_count 32 = .ok (.if_icmp .ne 6, 3) := by decide +kernel
theorem dX9_count_35 : decode cX9_count 35 = .ok (.iinc 2 1, 3) := by decide +kernel
theorem dX9_count_38 : decode cX9_count 38 = .ok (.aload_n 0, 1) := by decide +kernel
theorem dX9_count_39 : decode cX9_count 39 = .ok (.getfield 28, 3) := by decide +kernel
theorem dX9_count_42 : decode cX9_count 42 = .ok (.iload 4, 2) := by decide +kernel
theorem dX9_count_44 : decode cX9_count 44 = .ok (.aaload, 1) := by decide +kernel
theorem dX9_count_45 : decode cX9_count 45 = .ok (.getfield 208, 3) := by decide +kernel
theorem dX9_count_48 : decode cX9_count 48 = .ok (.iconst 2, 1) := by decide +kernel
theorem dX9_count_49 : decode cX9_count 49 = .ok (.if_icmp .ne 6, 3) := by decide +kernel
theorem dX9_count_52 : decode cX9_count 52 = .ok (.iinc 3 1, 3) := by decide +kernel
theorem dX9_count_55 : decode cX9_count 55 = .ok (.iinc 4 1, 3) := by decide +kernel
theorem dX9_count_58 : decode cX9_count 58 = .ok (.goto (-46), 3) := by decide +kernel
theorem dX9_count_61 : decode cX9_count 61 = .ok (.iload_n 1, 1) := by decide +kernel
theorem dX9_count_62 : decode cX9_count 62 = .ok (.tableswitch 104 0 8 #[50, 55, 60, 65, 70, 75, 80, 85, 90], 50) := by decide +kernel
theorem dX9_count_112 : decode cX9_count 112 = .ok (.aload_n 0, 1) := by decide +kernel
theorem dX9_count_113 : decode cX9_count 113 = .ok (.getfield 72, 3) := by decide +kernel
theorem dX9_count_116 : decode cX9_count 116 = .ok (.ireturn, 1) := by decide +kernel
theorem dX9_count_117 : decode cX9_count 117 = .ok (.aload_n 0, 1) := by decide +kernel
theorem dX9_count_118 : decode cX9_count 118 = .ok (.getfield 7, 3) := by decide +kernel
theorem dX9_count_121 : decode cX9_count 121 = .ok (.ireturn, 1) := by decide +kernel
theorem dX9_count_122 : decode cX9_count 122 = .ok (.aload_n 0, 1) := by decide +kernel
theorem dX9_count_123 : decode cX9_count 123 = .ok (.getfield 143, 3) := by decide +kernel
theorem dX9_count_126 : decode cX9_count 126 = .ok (.ireturn, 1) := by decide +kernel
theorem dX9_count_127 : decode cX9_count 127 = .ok (.aload_n 0, 1) := by decide +kernel
theorem dX9_count_128 : decode cX9_count 128 = .ok (.getfield 161, 3) := by decide +kernel
theorem dX9_count_131 : decode cX9_count 131 = .ok (.ireturn, 1) := by decide +kernel
theorem dX9_count_132 : decode cX9_count 132 = .ok (.aload_n 0, 1) := by decide +kernel
theorem dX9_count_133 : decode cX9_count 133 = .ok (.getfield 158, 3) := by decide +kernel
theorem dX9_count_136 : decode cX9_count 136 = .ok (.ireturn, 1) := by decide +kernel
theorem dX9_count_137 : decode cX9_count 137 = .ok (.aload_n 0, 1) := by decide +kernel
theorem dX9_count_138 : decode cX9_count 138 = .ok (.getfield 226, 3) := by decide +kernel
theorem dX9_count_141 : decode cX9_count 141 = .ok (.ireturn, 1) := by decide +kernel
theorem dX9_count_142 : decode cX9_count 142 = .ok (.aload_n 0, 1) := by decide +kernel
theorem dX9_count_143 : decode cX9_count 143 = .ok (.getfield 66, 3) := by decide +kernel
theorem dX9_count_146 : decode cX9_count 146 = .ok (.ireturn, 1) := by decide +kernel
theorem dX9_count_147 : decode cX9_count 147 = .ok (.aload_n 0, 1) := by decide +kernel
theorem dX9_count_148 : decode cX9_count 148 = .ok (.getfield 216, 3) := by decide +kernel
theorem dX9_count_151 : decode cX9_count 151 = .ok (.ireturn, 1) := by decide +kernel
theorem dX9_count_152 : decode cX9_count 152 = .ok (.iload_n 2, 1) := by decide +kernel
theorem dX9_count_153 : decode cX9_count 153 = .ok (.ifCond .ne 11, 3) := by decide +kernel
theorem dX9_count_156 : decode cX9_count 156 = .ok (.iload_n 3, 1) := by decide +kernel
theorem dX9_count_157 : decode cX9_count 157 = .ok (.ifCond .le 7, 3) := by decide +kernel
theorem dX9_count_160 : decode cX9_count 160 = .ok (.iconst 1, 1) := by decide +kernel
theorem dX9_count_161 : decode cX9_count 161 = .ok (.goto 4, 3) := by decide +kernel
theorem dX9_count_164 : decode cX9_count 164 = .ok (.iconst 0, 1) := by decide +kernel
theorem dX9_count_165 : decode cX9_count 165 = .ok (.ireturn, 1) := by decide +kernel
theorem dX9_count_166 : decode cX9_count 166 = .ok (.iconst (-1), 1) := by decide +kernel
theorem dX9_count_167 : decode cX9_count 167 = .ok (.ireturn, 1) := by decide +kernel
theorem dJx29ce0_ordinal_8abf5_0 : decode cJx29ce0_ordinal_8abf5 0 = .ok (.aload_n 0, 1) := by decide +kernel
theorem dJx29ce0_ordinal_8abf5_1 : decode cJx29ce0_ordinal_8abf5 1 = .ok (.getfield 7, 3) := by decide +kernel
theorem dJx29ce0_ordinal_8abf5_4 : decode cJx29ce0_ordinal_8abf5 4 = .ok (.ireturn, 1) := by decide +kernel
theorem dJ9_max_7cf53_0 : decode cJ9_max_7cf53 0 = .ok (.iload_n 0, 1) := by decide +kernel
theorem dJ9_max_7cf53_1 : decode cJ9_max_7cf53 1 = .ok (.iload_n 1, 1) := by decide +kernel
theorem dJ9_max_7cf53_2 : decode cJ9_max_7cf53 2 = .ok (.if_icmp .lt 7, 3) := by decide +kernel
theorem dJ9_max_7cf53_5 : decode cJ9_max_7cf53 5 = .ok (.iload_n 0, 1) := by decide +kernel
theorem dJ9_max_7cf53_6 : decode cJ9_max_7cf53 6 = .ok (.goto 4, 3) := by decide +kernel
theorem dJ9_max_7cf53_9 : decode cJ9_max_7cf53 9 = .ok (.iload_n 1, 1) := by decide +kernel
theorem dJ9_max_7cf53_10 : decode cJ9_max_7cf53 10 = .ok (.ireturn, 1) := by decide +kernel
theorem dJ9_min_7cf53_0 : decode cJ9_min_7cf53 0 = .ok (.iload_n 0, 1) := by decide +kernel
theorem dJ9_min_7cf53_1 : decode cJ9_min_7cf53 1 = .ok (.iload_n 1, 1) := by decide +kernel
theorem dJ9_min_7cf53_2 : decode cJ9_min_7cf53 2 = .ok (.if_icmp .gt 7, 3) := by decide +kernel
theorem dJ9_min_7cf53_5 : decode cJ9_min_7cf53 5 = .ok (.iload_n 0, 1) := by decide +kernel
theorem dJ9_min_7cf53_6 : decode cJ9_min_7cf53 6 = .ok (.goto 4, 3) := by decide +kernel
theorem dJ9_min_7cf53_9 : decode cJ9_min_7cf53 9 = .ok (.iload_n 1, 1) := by decide +kernel
theorem dJ9_min_7cf53_10 : decode cJ9_min_7cf53 10 = .ok (.ireturn, 1) := by decide +kernel
theorem dJ0_charAt_5068e_0 : decode cJ0_charAt_5068e 0 = .ok (.aload_n 0, 1) := by decide +kernel
theorem dJ0_charAt_5068e_1 : decode cJ0_charAt_5068e 1 = .ok (.invokevirtual 492, 3) := by decide +kernel
theorem dJ0_charAt_5068e_4 : decode cJ0_charAt_5068e 4 = .ok (.ifCond .eq 12, 3) := by decide +kernel
theorem dJ0_charAt_5068e_7 : decode cJ0_charAt_5068e 7 = .ok (.aload_n 0, 1) := by decide +kernel
theorem dJ0_charAt_5068e_8 : decode cJ0_charAt_5068e 8 = .ok (.getfield 9, 3) := by decide +kernel
theorem dJ0_charAt_5068e_11 : decode cJ0_charAt_5068e 11 = .ok (.iload_n 1, 1) := by decide +kernel
theorem dJ0_charAt_5068e_12 : decode cJ0_charAt_5068e 12 = .ok (.invokestatic 495, 3) := by decide +kernel
theorem dJ0_charAt_5068e_15 : decode cJ0_charAt_5068e 15 = .ok (.ireturn, 1) := by decide +kernel
theorem dJ0_charAt_5068e_16 : decode cJ0_charAt_5068e 16 = .ok (.aload_n 0, 1) := by decide +kernel
theorem dJ0_charAt_5068e_17 : decode cJ0_charAt_5068e 17 = .ok (.getfield 9, 3) := by decide +kernel
theorem dJ0_charAt_5068e_20 : decode cJ0_charAt_5068e 20 = .ok (.iload_n 1, 1) := by decide +kernel
theorem dJ0_charAt_5068e_21 : decode cJ0_charAt_5068e 21 = .ok (.invokestatic 498, 3) := by decide +kernel
theorem dJ0_charAt_5068e_24 : decode cJ0_charAt_5068e 24 = .ok (.ireturn, 1) := by decide +kernel
theorem dJ0_isLatin1_aae02_0 : decode cJ0_isLatin1_aae02 0 = .ok (.getstatic 38, 3) := by decide +kernel
theorem dJ0_isLatin1_aae02_3 : decode cJ0_isLatin1_aae02 3 = .ok (.ifCond .eq 14, 3) := by decide +kernel
theorem dJ0_isLatin1_aae02_6 : decode cJ0_isLatin1_aae02 6 = .ok (.aload_n 0, 1) := by decide +kernel
theorem dJ0_isLatin1_aae02_7 : decode cJ0_isLatin1_aae02 7 = .ok (.getfield 15, 3) := by decide +kernel
theorem dJ0_isLatin1_aae02_10 : decode cJ0_isLatin1_aae02 10 = .ok (.ifCond .ne 7, 3) := by decide +kernel
theorem dJ0_isLatin1_aae02_13 : decode cJ0_isLatin1_aae02 13 = .ok (.iconst 1, 1) := by decide +kernel
theorem dJ0_isLatin1_aae02_14 : decode cJ0_isLatin1_aae02 14 = .ok (.goto 4, 3) := by decide +kernel
theorem dJ0_isLatin1_aae02_17 : decode cJ0_isLatin1_aae02 17 = .ok (.iconst 0, 1) := by decide +kernel
theorem dJ0_isLatin1_aae02_18 : decode cJ0_isLatin1_aae02 18 = .ok (.ireturn, 1) := by decide +kernel
theorem dJ0_checkIndex_df160_0 : decode cJ0_checkIndex_df160 0 = .ok (.iload_n 0, 1) := by decide +kernel
theorem dJ0_checkIndex_df160_1 : decode cJ0_checkIndex_df160 1 = .ok (.iload_n 1, 1) := by decide +kernel
theorem dJ0_checkIndex_df160_2 : decode cJ0_checkIndex_df160 2 = .ok (.getstatic 1053, 3) := by decide +kernel
theorem dJ0_checkIndex_df160_5 : decode cJ0_checkIndex_df160 5 = .ok (.invokestatic 1059, 3) := by decide +kernel
theorem dJ0_checkIndex_df160_8 : decode cJ0_checkIndex_df160 8 = .ok (.pop, 1) := by decide +kernel
theorem dJ0_checkIndex_df160_9 : decode cJ0_checkIndex_df160 9 = .ok (.return_, 1) := by decide +kernel
theorem dJ1_charAt_3b067_0 : decode cJ1_charAt_3b067 0 = .ok (.iload_n 1, 1) := by decide +kernel
theorem dJ1_charAt_3b067_1 : decode cJ1_charAt_3b067 1 = .ok (.aload_n 0, 1) := by decide +kernel
theorem dJ1_charAt_3b067_2 : decode cJ1_charAt_3b067 2 = .ok (.arraylength, 1) := by decide +kernel
theorem dJ1_charAt_3b067_3 : decode cJ1_charAt_3b067 3 = .ok (.invokestatic 9, 3) := by decide +kernel
theorem dJ1_charAt_3b067_6 : decode cJ1_charAt_3b067 6 = .ok (.aload_n 0, 1) := by decide +kernel
theorem dJ1_charAt_3b067_7 : decode cJ1_charAt_3b067 7 = .ok (.iload_n 1, 1) := by decide +kernel
theorem dJ1_charAt_3b067_8 : decode cJ1_charAt_3b067 8 = .ok (.baload, 1) := by decide +kernel
theorem dJ1_charAt_3b067_9 : decode cJ1_charAt_3b067 9 = .ok (.sipush 255, 3) := by decide +kernel
theorem dJ1_charAt_3b067_12 : decode cJ1_charAt_3b067 12 = .ok (.iand, 1) := by decide +kernel
theorem dJ1_charAt_3b067_13 : decode cJ1_charAt_3b067 13 = .ok (.i2c, 1) := by decide +kernel
theorem dJ1_charAt_3b067_14 : decode cJ1_charAt_3b067 14 = .ok (.ireturn, 1) := by decide +kernel
theorem dJ2_getChar_3b067_0 : decode cJ2_getChar_3b067 0 = .ok (.getstatic 44, 3) := by decide +kernel
theorem dJ2_getChar_3b067_3 : decode cJ2_getChar_3b067 3 = .ok (.ifCond .ne 25, 3) := by decide +kernel
theorem dJ2_getChar_3b067_6 : decode cJ2_getChar_3b067 6 = .ok (.iload_n 1, 1) := by decide +kernel
theorem dJ2_getChar_3b067_7 : decode cJ2_getChar_3b067 7 = .ok (.ifCond .lt 11, 3) := by decide +kernel
theorem dJ2_getChar_3b067_10 : decode cJ2_getChar_3b067 10 = .ok (.iload_n 1, 1) := by decide +kernel
theorem dJ2_getChar_3b067_11 : decode cJ2_getChar_3b067 11 = .ok (.aload_n 0, 1) := by decide +kernel
theorem dJ2_getChar_3b067_12 : decode cJ2_getChar_3b067 12 = .ok (.invokestatic 48, 3) := by decide +kernel
theorem dJ2_getChar_3b067_15 : decode cJ2_getChar_3b067 15 = .ok (.if_icmp .lt 13, 3) := by decide +kernel
theorem dJ2_getChar_3b067_18 : decode cJ2_getChar_3b067 18 = .ok (.new 52, 3) := by decide +kernel
theorem dJ2_getChar_3b067_21 : decode cJ2_getChar_3b067 21 = .ok (.dup, 1) := by decide +kernel
theorem dJ2_getChar_3b067_22 : decode cJ2_getChar_3b067 22 = .ok (.ldc 54, 2) := by decide +kernel
theorem dJ2_getChar_3b067_24 : decode cJ2_getChar_3b067 24 = .ok (.invokespecial 56, 3) := by decide +kernel
theorem dJ2_getChar_3b067_27 : decode cJ2_getChar_3b067 27 = .ok (.athrow, 1) := by decide +kernel
theorem dJ2_getChar_3b067_28 : decode cJ2_getChar_3b067 28 = .ok (.iload_n 1, 1) := by decide +kernel
theorem dJ2_getChar_3b067_29 : decode cJ2_getChar_3b067 29 = .ok (.iconst 1, 1) := by decide +kernel
theorem dJ2_getChar_3b067_30 : decode cJ2_getChar_3b067 30 = .ok (.ishl, 1) := by decide +kernel
theorem dJ2_getChar_3b067_31 : decode cJ2_getChar_3b067 31 = .ok (.istore_n 1, 1) := by decide +kernel
theorem dJ2_getChar_3b067_32 : decode cJ2_getChar_3b067 32 = .ok (.aload_n 0, 1) := by decide +kernel
theorem dJ2_getChar_3b067_33 : decode cJ2_getChar_3b067 33 = .ok (.iload_n 1, 1) := by decide +kernel
theorem dJ2_getChar_3b067_34 : decode cJ2_getChar_3b067 34 = .ok (.iinc 1 1, 3) := by decide +kernel
theorem dJ2_getChar_3b067_37 : decode cJ2_getChar_3b067 37 = .ok (.baload, 1) := by decide +kernel
theorem dJ2_getChar_3b067_38 : decode cJ2_getChar_3b067 38 = .ok (.sipush 255, 3) := by decide +kernel
theorem dJ2_getChar_3b067_41 : decode cJ2_getChar_3b067 41 = .ok (.iand, 1) := by decide +kernel
theorem dJ2_getChar_3b067_42 : decode cJ2_getChar_3b067 42 = .ok (.getstatic 59, 3) := by decide +kernel
theorem dJ2_getChar_3b067_45 : decode cJ2_getChar_3b067 45 = .ok (.ishl, 1) := by decide +kernel
theorem dJ2_getChar_3b067_46 : decode cJ2_getChar_3b067 46 = .ok (.aload_n 0, 1) := by decide +kernel
theorem dJ2_getChar_3b067_47 : decode cJ2_getChar_3b067 47 = .ok (.iload_n 1, 1) := by decide +kernel
theorem dJ2_getChar_3b067_48 : decode cJ2_getChar_3b067 48 = .ok (.baload, 1) := by decide +kernel
theorem dJ2_getChar_3b067_49 : decode cJ2_getChar_3b067 49 = .ok (.sipush 255, 3) := by decide +kernel
theorem dJ2_getChar_3b067_52 : decode cJ2_getChar_3b067 52 = .ok (.iand, 1) := by decide +kernel
theorem dJ2_getChar_3b067_53 : decode cJ2_getChar_3b067 53 = .ok (.getstatic 63, 3) := by decide +kernel
theorem dJ2_getChar_3b067_56 : decode cJ2_getChar_3b067 56 = .ok (.ishl, 1) := by decide +kernel
theorem dJ2_getChar_3b067_57 : decode cJ2_getChar_3b067 57 = .ok (.ior, 1) := by decide +kernel
theorem dJ2_getChar_3b067_58 : decode cJ2_getChar_3b067 58 = .ok (.i2c, 1) := by decide +kernel
theorem dJ2_getChar_3b067_59 : decode cJ2_getChar_3b067 59 = .ok (.ireturn, 1) := by decide +kernel
theorem dJ2_length_9d52b_0 : decode cJ2_length_9d52b 0 = .ok (.aload_n 0, 1) := by decide +kernel
theorem dJ2_length_9d52b_1 : decode cJ2_length_9d52b 1 = .ok (.arraylength, 1) := by decide +kernel
theorem dJ2_length_9d52b_2 : decode cJ2_length_9d52b 2 = .ok (.iconst 1, 1) := by decide +kernel
theorem dJ2_length_9d52b_3 : decode cJ2_length_9d52b 3 = .ok (.ishr, 1) := by decide +kernel
theorem dJ2_length_9d52b_4 : decode cJ2_length_9d52b 4 = .ok (.ireturn, 1) := by decide +kernel
theorem dJ2_charAt_3b067_0 : decode cJ2_charAt_3b067 0 = .ok (.iload_n 1, 1) := by decide +kernel
theorem dJ2_charAt_3b067_1 : decode cJ2_charAt_3b067 1 = .ok (.aload_n 0, 1) := by decide +kernel
theorem dJ2_charAt_3b067_2 : decode cJ2_charAt_3b067 2 = .ok (.invokestatic 67, 3) := by decide +kernel
theorem dJ2_charAt_3b067_5 : decode cJ2_charAt_3b067 5 = .ok (.aload_n 0, 1) := by decide +kernel
theorem dJ2_charAt_3b067_6 : decode cJ2_charAt_3b067 6 = .ok (.iload_n 1, 1) := by decide +kernel
theorem dJ2_charAt_3b067_7 : decode cJ2_charAt_3b067 7 = .ok (.invokestatic 71, 3) := by decide +kernel
theorem dJ2_charAt_3b067_10 : decode cJ2_charAt_3b067 10 = .ok (.ireturn, 1) := by decide +kernel
theorem dJ2_checkIndex_2214a_0 : decode cJ2_checkIndex_2214a 0 = .ok (.iload_n 0, 1) := by decide +kernel
theorem dJ2_checkIndex_2214a_1 : decode cJ2_checkIndex_2214a 1 = .ok (.aload_n 1, 1) := by decide +kernel
theorem dJ2_checkIndex_2214a_2 : decode cJ2_checkIndex_2214a 2 = .ok (.invokestatic 48, 3) := by decide +kernel
theorem dJ2_checkIndex_2214a_5 : decode cJ2_checkIndex_2214a 5 = .ok (.invokestatic 414, 3) := by decide +kernel
theorem dJ2_checkIndex_2214a_8 : decode cJ2_checkIndex_2214a 8 = .ok (.return_, 1) := by decide +kernel
theorem dJxa1e45_init_da8c8_0 : decode cJxa1e45_init_da8c8 0 = .ok (.aload_n 0, 1) := by decide +kernel
theorem dJxa1e45_init_da8c8_1 : decode cJxa1e45_init_da8c8 1 = .ok (.invokespecial 1, 3) := by decide +kernel
theorem dJxa1e45_init_da8c8_4 : decode cJxa1e45_init_da8c8 4 = .ok (.return_, 1) := by decide +kernel
theorem dJxc12de_init_da8c8_0 : decode cJxc12de_init_da8c8 0 = .ok (.aload_n 0, 1) := by decide +kernel
theorem dJxc12de_init_da8c8_1 : decode cJxc12de_init_da8c8 1 = .ok (.invokespecial 1, 3) := by decide +kernel
theorem dJxc12de_init_da8c8_4 : decode cJxc12de_init_da8c8 4 = .ok (.aload_n 0, 1) := by decide +kernel
theorem dJxc12de_init_da8c8_5 : decode cJxc12de_init_da8c8 5 = .ok (.iconst 0, 1) := by decide +kernel
theorem dJxc12de_init_da8c8_6 : decode cJxc12de_init_da8c8 6 = .ok (.putfield 7, 3) := by decide +kernel
theorem dJxc12de_init_da8c8_9 : decode cJxc12de_init_da8c8 9 = .ok (.return_, 1) := by decide +kernel
theorem dJx4a65c_init_da8c8_0 : decode cJx4a65c_init_da8c8 0 = .ok (.aload_n 0, 1) := by decide +kernel
theorem dJx4a65c_init_da8c8_1 : decode cJx4a65c_init_da8c8 1 = .ok (.invokespecial 1, 3) := by decide +kernel
theorem dJx4a65c_init_da8c8_4 : decode cJx4a65c_init_da8c8 4 = .ok (.aload_n 0, 1) := by decide +kernel
theorem dJx4a65c_init_da8c8_5 : decode cJx4a65c_init_da8c8 5 = .ok (.getstatic 39, 3) := by decide +kernel
theorem dJx4a65c_init_da8c8_8 : decode cJx4a65c_init_da8c8 8 = .ok (.putfield 9, 3) := by decide +kernel
theorem dJx4a65c_init_da8c8_11 : decode cJx4a65c_init_da8c8 11 = .ok (.return_, 1) := by decide +kernel
theorem dJx4a65c_grow_92f84_0 : decode cJx4a65c_grow_92f84 0 = .ok (.aload_n 0, 1) := by decide +kernel
theorem dJx4a65c_grow_92f84_1 : decode cJx4a65c_grow_92f84 1 = .ok (.getfield 9, 3) := by decide +kernel
theorem dJx4a65c_grow_92f84_4 : decode cJx4a65c_grow_92f84 4 = .ok (.arraylength, 1) := by decide +kernel
theorem dJx4a65c_grow_92f84_5 : decode cJx4a65c_grow_92f84 5 = .ok (.istore_n 2, 1) := by decide +kernel
theorem dJx4a65c_grow_92f84_6 : decode cJx4a65c_grow_92f84 6 = .ok (.iload_n 2, 1) := by decide +kernel
theorem dJx4a65c_grow_92f84_7 : decode cJx4a65c_grow_92f84 7 = .ok (.ifCond .gt 13, 3) := by decide +kernel
theorem dJx4a65c_grow_92f84_10 : decode cJx4a65c_grow_92f84 10 = .ok (.aload_n 0, 1) := by decide +kernel
theorem dJx4a65c_grow_92f84_11 : decode cJx4a65c_grow_92f84 11 = .ok (.getfield 9, 3) := by decide +kernel
theorem dJx4a65c_grow_92f84_14 : decode cJx4a65c_grow_92f84 14 = .ok (.getstatic 39, 3) := by decide +kernel
theorem dJx4a65c_grow_92f84_17 : decode cJx4a65c_grow_92f84 17 = .ok (.if_acmp .eq 28, 3) := by decide +kernel
theorem dJx4a65c_grow_92f84_20 : decode cJx4a65c_grow_92f84 20 = .ok (.iload_n 2, 1) := by decide +kernel
theorem dJx4a65c_grow_92f84_21 : decode cJx4a65c_grow_92f84 21 = .ok (.iload_n 1, 1) := by decide +kernel
theorem dJx4a65c_grow_92f84_22 : decode cJx4a65c_grow_92f84 22 = .ok (.iload_n 2, 1) := by decide +kernel
theorem dJx4a65c_grow_92f84_23 : decode cJx4a65c_grow_92f84 23 = .ok (.isub, 1) := by decide +kernel
theorem dJx4a65c_grow_92f84_24 : decode cJx4a65c_grow_92f84 24 = .ok (.iload_n 2, 1) := by decide +kernel
theorem dJx4a65c_grow_92f84_25 : decode cJx4a65c_grow_92f84 25 = .ok (.iconst 1, 1) := by decide +kernel
theorem dJx4a65c_grow_92f84_26 : decode cJx4a65c_grow_92f84 26 = .ok (.ishr, 1) := by decide +kernel
theorem dJx4a65c_grow_92f84_27 : decode cJx4a65c_grow_92f84 27 = .ok (.invokestatic 73, 3) := by decide +kernel
theorem dJx4a65c_grow_92f84_30 : decode cJx4a65c_grow_92f84 30 = .ok (.istore_n 3, 1) := by decide +kernel
theorem dJx4a65c_grow_92f84_31 : decode cJx4a65c_grow_92f84 31 = .ok (.aload_n 0, 1) := by decide +kernel
theorem dJx4a65c_grow_92f84_32 : decode cJx4a65c_grow_92f84 32 = .ok (.aload_n 0, 1) := by decide +kernel
theorem dJx4a65c_grow_92f84_33 : decode cJx4a65c_grow_92f84 33 = .ok (.getfield 9, 3) := by decide +kernel
theorem dJx4a65c_grow_92f84_36 : decode cJx4a65c_grow_92f84 36 = .ok (.iload_n 3, 1) := by decide +kernel
theorem dJx4a65c_grow_92f84_37 : decode cJx4a65c_grow_92f84 37 = .ok (.invokestatic 66, 3) := by decide +kernel
theorem dJx4a65c_grow_92f84_40 : decode cJx4a65c_grow_92f84 40 = .ok (.dup_x1, 1) := by decide +kernel
theorem dJx4a65c_grow_92f84_41 : decode cJx4a65c_grow_92f84 41 = .ok (.putfield 9, 3) := by decide +kernel
theorem dJx4a65c_grow_92f84_44 : decode cJx4a65c_grow_92f84 44 = .ok (.areturn, 1) := by decide +kernel
theorem dJx4a65c_grow_92f84_45 : decode cJx4a65c_grow_92f84 45 = .ok (.aload_n 0, 1) := by decide +kernel
theorem dJx4a65c_grow_92f84_46 : decode cJx4a65c_grow_92f84 46 = .ok (.bipush 10, 2) := by decide +kernel
theorem dJx4a65c_grow_92f84_48 : decode cJx4a65c_grow_92f84 48 = .ok (.iload_n 1, 1) := by decide +kernel
theorem dJx4a65c_grow_92f84_49 : decode cJx4a65c_grow_92f84 49 = .ok (.invokestatic 79, 3) := by decide +kernel
theorem dJx4a65c_grow_92f84_52 : decode cJx4a65c_grow_92f84 52 = .ok (.anewarray 7, 3) := by decide +kernel
theorem dJx4a65c_grow_92f84_55 : decode cJx4a65c_grow_92f84 55 = .ok (.dup_x1, 1) := by decide +kernel
theorem dJx4a65c_grow_92f84_56 : decode cJx4a65c_grow_92f84 56 = .ok (.putfield 9, 3) := by decide +kernel
theorem dJx4a65c_grow_92f84_59 : decode cJx4a65c_grow_92f84 59 = .ok (.areturn, 1) := by decide +kernel
theorem dJx4a65c_grow_d5877_0 : decode cJx4a65c_grow_d5877 0 = .ok (.aload_n 0, 1) := by decide +kernel
theorem dJx4a65c_grow_d5877_1 : decode cJx4a65c_grow_d5877 1 = .ok (.aload_n 0, 1) := by decide +kernel
theorem dJx4a65c_grow_d5877_2 : decode cJx4a65c_grow_d5877 2 = .ok (.getfield 48, 3) := by decide +kernel
theorem dJx4a65c_grow_d5877_5 : decode cJx4a65c_grow_d5877 5 = .ok (.iconst 1, 1) := by decide +kernel
theorem dJx4a65c_grow_d5877_6 : decode cJx4a65c_grow_d5877 6 = .ok (.iadd, 1) := by decide +kernel
theorem dJx4a65c_grow_d5877_7 : decode cJx4a65c_grow_d5877 7 = .ok (.invokevirtual 69, 3) := by decide +kernel
theorem dJx4a65c_grow_d5877_10 : decode cJx4a65c_grow_d5877 10 = .ok (.areturn, 1) := by decide +kernel
theorem dJx4a65c_size_8abf5_0 : decode cJx4a65c_size_8abf5 0 = .ok (.aload_n 0, 1) := by decide +kernel
theorem dJx4a65c_size_8abf5_1 : decode cJx4a65c_size_8abf5 1 = .ok (.getfield 48, 3) := by decide +kernel
theorem dJx4a65c_size_8abf5_4 : decode cJx4a65c_size_8abf5 4 = .ok (.ireturn, 1) := by decide +kernel
theorem dJx4a65c_elementData_915e3_0 : decode cJx4a65c_elementData_915e3 0 = .ok (.aload_n 0, 1) := by decide +kernel
theorem dJx4a65c_elementData_915e3_1 : decode cJx4a65c_elementData_915e3 1 = .ok (.getfield 9, 3) := by decide +kernel
theorem dJx4a65c_elementData_915e3_4 : decode cJx4a65c_elementData_915e3 4 = .ok (.iload_n 1, 1) := by decide +kernel
theorem dJx4a65c_elementData_915e3_5 : decode cJx4a65c_elementData_915e3 5 = .ok (.aaload, 1) := by decide +kernel
theorem dJx4a65c_elementData_915e3_6 : decode cJx4a65c_elementData_915e3 6 = .ok (.areturn, 1) := by decide +kernel
theorem dJx4a65c_get_915e3_0 : decode cJx4a65c_get_915e3 0 = .ok (.iload_n 1, 1) := by decide +kernel
theorem dJx4a65c_get_915e3_1 : decode cJx4a65c_get_915e3 1 = .ok (.aload_n 0, 1) := by decide +kernel
theorem dJx4a65c_get_915e3_2 : decode cJx4a65c_get_915e3 2 = .ok (.getfield 48, 3) := by decide +kernel
theorem dJx4a65c_get_915e3_5 : decode cJx4a65c_get_915e3 5 = .ok (.invokestatic 118, 3) := by decide +kernel
theorem dJx4a65c_get_915e3_8 : decode cJx4a65c_get_915e3 8 = .ok (.pop, 1) := by decide +kernel
theorem dJx4a65c_get_915e3_9 : decode cJx4a65c_get_915e3 9 = .ok (.aload_n 0, 1) := by decide +kernel
theorem dJx4a65c_get_915e3_10 : decode cJx4a65c_get_915e3 10 = .ok (.iload_n 1, 1) := by decide +kernel
theorem dJx4a65c_get_915e3_11 : decode cJx4a65c_get_915e3 11 = .ok (.invokevirtual 123, 3) := by decide +kernel
theorem dJx4a65c_get_915e3_14 : decode cJx4a65c_get_915e3 14 = .ok (.areturn, 1) := by decide +kernel
theorem dJx4a65c_add_72be8_0 : decode cJx4a65c_add_72be8 0 = .ok (.iload_n 3, 1) := by decide +kernel
theorem dJx4a65c_add_72be8_1 : decode cJx4a65c_add_72be8 1 = .ok (.aload_n 2, 1) := by decide +kernel
theorem dJx4a65c_add_72be8_2 : decode cJx4a65c_add_72be8 2 = .ok (.arraylength, 1) := by decide +kernel
theorem dJx4a65c_add_72be8_3 : decode cJx4a65c_add_72be8 3 = .ok (.if_icmp .ne 8, 3) := by decide +kernel
theorem dJx4a65c_add_72be8_6 : decode cJx4a65c_add_72be8 6 = .ok (.aload_n 0, 1) := by decide +kernel
theorem dJx4a65c_add_72be8_7 : decode cJx4a65c_add_72be8 7 = .ok (.invokevirtual 129, 3) := by decide +kernel
theorem dJx4a65c_add_72be8_10 : decode cJx4a65c_add_72be8 10 = .ok (.astore_n 2, 1) := by decide +kernel
theorem dJx4a65c_add_72be8_11 : decode cJx4a65c_add_72be8 11 = .ok (.aload_n 2, 1) := by decide +kernel
theorem dJx4a65c_add_72be8_12 : decode cJx4a65c_add_72be8 12 = .ok (.iload_n 3, 1) := by decide +kernel
theorem dJx4a65c_add_72be8_13 : decode cJx4a65c_add_72be8 13 = .ok (.aload_n 1, 1) := by decide +kernel
theorem dJx4a65c_add_72be8_14 : decode cJx4a65c_add_72be8 14 = .ok (.aastore, 1) := by decide +kernel
theorem dJx4a65c_add_72be8_15 : decode cJx4a65c_add_72be8 15 = .ok (.aload_n 0, 1) := by decide +kernel
theorem dJx4a65c_add_72be8_16 : decode cJx4a65c_add_72be8 16 = .ok (.iload_n 3, 1) := by decide +kernel
theorem dJx4a65c_add_72be8_17 : decode cJx4a65c_add_72be8 17 = .ok (.iconst 1, 1) := by decide +kernel
theorem dJx4a65c_add_72be8_18 : decode cJx4a65c_add_72be8 18 = .ok (.iadd, 1) := by decide +kernel
theorem dJx4a65c_add_72be8_19 : decode cJx4a65c_add_72be8 19 = .ok (.putfield 48, 3) := by decide +kernel
theorem dJx4a65c_add_72be8_22 : decode cJx4a65c_add_72be8 22 = .ok (.return_, 1) := by decide +kernel
theorem dJx4a65c_add_9ea2d_0 : decode cJx4a65c_add_9ea2d 0 = .ok (.aload_n 0, 1) := by decide +kernel
theorem dJx4a65c_add_9ea2d_1 : decode cJx4a65c_add_9ea2d 1 = .ok (.dup, 1) := by decide +kernel
theorem dJx4a65c_add_9ea2d_2 : decode cJx4a65c_add_9ea2d 2 = .ok (.getfield 63, 3) := by decide +kernel
theorem dJx4a65c_add_9ea2d_5 : decode cJx4a65c_add_9ea2d 5 = .ok (.iconst 1, 1) := by decide +kernel
theorem dJx4a65c_add_9ea2d_6 : decode cJx4a65c_add_9ea2d 6 = .ok (.iadd, 1) := by decide +kernel
theorem dJx4a65c_add_9ea2d_7 : decode cJx4a65c_add_9ea2d 7 = .ok (.putfield 63, 3) := by decide +kernel
theorem dJx4a65c_add_9ea2d_10 : decode cJx4a65c_add_9ea2d 10 = .ok (.aload_n 0, 1) := by decide +kernel
theorem dJx4a65c_add_9ea2d_11 : decode cJx4a65c_add_9ea2d 11 = .ok (.aload_n 1, 1) := by decide +kernel
theorem dJx4a65c_add_9ea2d_12 : decode cJx4a65c_add_9ea2d 12 = .ok (.aload_n 0, 1) := by decide +kernel
theorem dJx4a65c_add_9ea2d_13 : decode cJx4a65c_add_9ea2d 13 = .ok (.getfield 9, 3) := by decide +kernel
theorem dJx4a65c_add_9ea2d_16 : decode cJx4a65c_add_9ea2d 16 = .ok (.aload_n 0, 1) := by decide +kernel
theorem dJx4a65c_add_9ea2d_17 : decode cJx4a65c_add_9ea2d 17 = .ok (.getfield 48, 3) := by decide +kernel
theorem dJx4a65c_add_9ea2d_20 : decode cJx4a65c_add_9ea2d 20 = .ok (.invokevirtual 131, 3) := by decide +kernel
theorem dJx4a65c_add_9ea2d_23 : decode cJx4a65c_add_9ea2d 23 = .ok (.iconst 1, 1) := by decide +kernel
theorem dJx4a65c_add_9ea2d_24 : decode cJx4a65c_add_9ea2d 24 = .ok (.ireturn, 1) := by decide +kernel
theorem dJ7_fill_53178_0 : decode cJ7_fill_53178 0 = .ok (.iconst 0, 1) := by decide +kernel
theorem dJ7_fill_53178_1 : decode cJ7_fill_53178 1 = .ok (.istore_n 2, 1) := by decide +kernel
theorem dJ7_fill_53178_2 : decode cJ7_fill_53178 2 = .ok (.aload_n 0, 1) := by decide +kernel
theorem dJ7_fill_53178_3 : decode cJ7_fill_53178 3 = .ok (.arraylength, 1) := by decide +kernel
theorem dJ7_fill_53178_4 : decode cJ7_fill_53178 4 = .ok (.istore_n 3, 1) := by decide +kernel
theorem dJ7_fill_53178_5 : decode cJ7_fill_53178 5 = .ok (.iload_n 2, 1) := by decide +kernel
theorem dJ7_fill_53178_6 : decode cJ7_fill_53178 6 = .ok (.iload_n 3, 1) := by decide +kernel
theorem dJ7_fill_53178_7 : decode cJ7_fill_53178 7 = .ok (.if_icmp .ge 13, 3) := by decide +kernel
theorem dJ7_fill_53178_10 : decode cJ7_fill_53178 10 = .ok (.aload_n 0, 1) := by decide +kernel
theorem dJ7_fill_53178_11 : decode cJ7_fill_53178 11 = .ok (.iload_n 2, 1) := by decide +kernel
theorem dJ7_fill_53178_12 : decode cJ7_fill_53178 12 = .ok (.iload_n 1, 1) := by decide +kernel
theorem dJ7_fill_53178_13 : decode cJ7_fill_53178 13 = .ok (.iastore, 1) := by decide +kernel
theorem dJ7_fill_53178_14 : decode cJ7_fill_53178 14 = .ok (.iinc 2 1, 3) := by decide +kernel
theorem dJ7_fill_53178_17 : decode cJ7_fill_53178 17 = .ok (.goto (-12), 3) := by decide +kernel
theorem dJ7_fill_53178_20 : decode cJ7_fill_53178 20 = .ok (.return_, 1) := by decide +kernel
theorem dJ7_copyOf_1904c_0 : decode cJ7_copyOf_1904c 0 = .ok (.aload_n 0, 1) := by decide +kernel
theorem dJ7_copyOf_1904c_1 : decode cJ7_copyOf_1904c 1 = .ok (.iload_n 1, 1) := by decide +kernel
theorem dJ7_copyOf_1904c_2 : decode cJ7_copyOf_1904c 2 = .ok (.aload_n 0, 1) := by decide +kernel
theorem dJ7_copyOf_1904c_3 : decode cJ7_copyOf_1904c 3 = .ok (.invokevirtual 86, 3) := by decide +kernel
theorem dJ7_copyOf_1904c_6 : decode cJ7_copyOf_1904c 6 = .ok (.invokestatic 300, 3) := by decide +kernel
theorem dJ7_copyOf_1904c_9 : decode cJ7_copyOf_1904c 9 = .ok (.areturn, 1) := by decide +kernel
theorem dJ7_copyOf_6403c_0 : decode cJ7_copyOf_6403c 0 = .ok (.aload_n 2, 1) := by decide +kernel
theorem dJ7_copyOf_6403c_1 : decode cJ7_copyOf_6403c 1 = .ok (.ldc 110, 2) := by decide +kernel
theorem dJ7_copyOf_6403c_3 : decode cJ7_copyOf_6403c 3 = .ok (.if_acmp .ne 10, 3) := by decide +kernel
theorem dJ7_copyOf_6403c_6 : decode cJ7_copyOf_6403c 6 = .ok (.iload_n 1, 1) := by decide +kernel
theorem dJ7_copyOf_6403c_7 : decode cJ7_copyOf_6403c 7 = .ok (.anewarray 2, 3) := by decide +kernel
theorem dJ7_copyOf_6403c_10 : decode cJ7_copyOf_6403c 10 = .ok (.goto 14, 3) := by decide +kernel
theorem dJ7_copyOf_6403c_13 : decode cJ7_copyOf_6403c 13 = .ok (.aload_n 2, 1) := by decide +kernel
theorem dJ7_copyOf_6403c_14 : decode cJ7_copyOf_6403c 14 = .ok (.invokevirtual 90, 3) := by decide +kernel
theorem dJ7_copyOf_6403c_17 : decode cJ7_copyOf_6403c 17 = .ok (.iload_n 1, 1) := by decide +kernel
theorem dJ7_copyOf_6403c_18 : decode cJ7_copyOf_6403c 18 = .ok (.invokestatic 95, 3) := by decide +kernel
theorem dJ7_copyOf_6403c_21 : decode cJ7_copyOf_6403c 21 = .ok (.checkcast 110, 3) := by decide +kernel
theorem dJ7_copyOf_6403c_24 : decode cJ7_copyOf_6403c 24 = .ok (.astore_n 3, 1) := by decide +kernel
theorem dJ7_copyOf_6403c_25 : decode cJ7_copyOf_6403c 25 = .ok (.aload_n 0, 1) := by decide +kernel
theorem dJ7_copyOf_6403c_26 : decode cJ7_copyOf_6403c 26 = .ok (.iconst 0, 1) := by decide +kernel
theorem dJ7_copyOf_6403c_27 : decode cJ7_copyOf_6403c 27 = .ok (.aload_n 3, 1) := by decide +kernel
theorem dJ7_copyOf_6403c_28 : decode cJ7_copyOf_6403c 28 = .ok (.iconst 0, 1) := by decide +kernel
theorem dJ7_copyOf_6403c_29 : decode cJ7_copyOf_6403c 29 = .ok (.aload_n 0, 1) := by decide +kernel
theorem dJ7_copyOf_6403c_30 : decode cJ7_copyOf_6403c 30 = .ok (.arraylength, 1) := by decide +kernel
theorem dJ7_copyOf_6403c_31 : decode cJ7_copyOf_6403c 31 = .ok (.iload_n 1, 1) := by decide +kernel
theorem dJ7_copyOf_6403c_32 : decode cJ7_copyOf_6403c 32 = .ok (.invokestatic 304, 3) := by decide +kernel
theorem dJ7_copyOf_6403c_35 : decode cJ7_copyOf_6403c 35 = .ok (.invokestatic 150, 3) := by decide +kernel
theorem dJ7_copyOf_6403c_38 : decode cJ7_copyOf_6403c 38 = .ok (.aload_n 3, 1) := by decide +kernel
theorem dJ7_copyOf_6403c_39 : decode cJ7_copyOf_6403c 39 = .ok (.areturn, 1) := by decide +kernel
theorem dJ15_checkIndex_7cf53_0 : decode cJ15_checkIndex_7cf53 0 = .ok (.iload_n 0, 1) := by decide +kernel
theorem dJ15_checkIndex_7cf53_1 : decode cJ15_checkIndex_7cf53 1 = .ok (.iload_n 1, 1) := by decide +kernel
theorem dJ15_checkIndex_7cf53_2 : decode cJ15_checkIndex_7cf53 2 = .ok (.aconst_null, 1) := by decide +kernel
theorem dJ15_checkIndex_7cf53_3 : decode cJ15_checkIndex_7cf53 3 = .ok (.invokestatic 105, 3) := by decide +kernel
theorem dJ15_checkIndex_7cf53_6 : decode cJ15_checkIndex_7cf53 6 = .ok (.ireturn, 1) := by decide +kernel
theorem dJ8_newLength_cabcc_0 : decode cJ8_newLength_cabcc 0 = .ok (.iload_n 0, 1) := by decide +kernel
theorem dJ8_newLength_cabcc_1 : decode cJ8_newLength_cabcc 1 = .ok (.iload_n 1, 1) := by decide +kernel
theorem dJ8_newLength_cabcc_2 : decode cJ8_newLength_cabcc 2 = .ok (.iload_n 2, 1) := by decide +kernel
theorem dJ8_newLength_cabcc_3 : decode cJ8_newLength_cabcc 3 = .ok (.invokestatic 194, 3) := by decide +kernel
theorem dJ8_newLength_cabcc_6 : decode cJ8_newLength_cabcc 6 = .ok (.iadd, 1) := by decide +kernel
theorem dJ8_newLength_cabcc_7 : decode cJ8_newLength_cabcc 7 = .ok (.istore_n 3, 1) := by decide +kernel
theorem dJ8_newLength_cabcc_8 : decode cJ8_newLength_cabcc 8 = .ok (.iconst 0, 1) := by decide +kernel
theorem dJ8_newLength_cabcc_9 : decode cJ8_newLength_cabcc 9 = .ok (.iload_n 3, 1) := by decide +kernel
theorem dJ8_newLength_cabcc_10 : decode cJ8_newLength_cabcc 10 = .ok (.if_icmp .ge 11, 3) := by decide +kernel
theorem dJ8_newLength_cabcc_13 : decode cJ8_newLength_cabcc 13 = .ok (.iload_n 3, 1) := by decide +kernel
theorem dJ8_newLength_cabcc_14 : decode cJ8_newLength_cabcc 14 = .ok (.ldc 200, 2) := by decide +kernel
theorem dJ8_newLength_cabcc_16 : decode cJ8_newLength_cabcc 16 = .ok (.if_icmp .gt 5, 3) := by decide +kernel
theorem dJ8_newLength_cabcc_19 : decode cJ8_newLength_cabcc 19 = .ok (.iload_n 3, 1) := by decide +kernel
theorem dJ8_newLength_cabcc_20 : decode cJ8_newLength_cabcc 20 = .ok (.ireturn, 1) := by decide +kernel
theorem dJ8_newLength_cabcc_21 : decode cJ8_newLength_cabcc 21 = .ok (.iload_n 0, 1) := by decide +kernel
theorem dJ8_newLength_cabcc_22 : decode cJ8_newLength_cabcc 22 = .ok (.iload_n 1, 1) := by decide +kernel
theorem dJ8_newLength_cabcc_23 : decode cJ8_newLength_cabcc 23 = .ok (.invokestatic 201, 3) := by decide +kernel
theorem dJ8_newLength_cabcc_26 : decode cJ8_newLength_cabcc 26 = .ok (.ireturn, 1) := by decide +kernel
theorem dJ8_hugeLength_7cf53_0 : decode cJ8_hugeLength_7cf53 0 = .ok (.iload_n 0, 1) := by decide +kernel
theorem dJ8_hugeLength_7cf53_1 : decode cJ8_hugeLength_7cf53 1 = .ok (.iload_n 1, 1) := by decide +kernel
theorem dJ8_hugeLength_7cf53_2 : decode cJ8_hugeLength_7cf53 2 = .ok (.iadd, 1) := by decide +kernel
theorem dJ8_hugeLength_7cf53_3 : decode cJ8_hugeLength_7cf53 3 = .ok (.istore_n 2, 1) := by decide +kernel
theorem dJ8_hugeLength_7cf53_4 : decode cJ8_hugeLength_7cf53 4 = .ok (.iload_n 2, 1) := by decide +kernel
theorem dJ8_hugeLength_7cf53_5 : decode cJ8_hugeLength_7cf53 5 = .ok (.ifCond .ge 44, 3) := by decide +kernel
theorem dJ8_hugeLength_7cf53_8 : decode cJ8_hugeLength_7cf53 8 = .ok (.new 204, 3) := by decide +kernel
theorem dJ8_hugeLength_7cf53_11 : decode cJ8_hugeLength_7cf53 11 = .ok (.dup, 1) := by decide +kernel
theorem dJ8_hugeLength_7cf53_12 : decode cJ8_hugeLength_7cf53 12 = .ok (.new 89, 3) := by decide +kernel
theorem dJ8_hugeLength_7cf53_15 : decode cJ8_hugeLength_7cf53 15 = .ok (.dup, 1) := by decide +kernel
theorem dJ8_hugeLength_7cf53_16 : decode cJ8_hugeLength_7cf53 16 = .ok (.invokespecial 91, 3) := by decide +kernel
theorem dJ8_hugeLength_7cf53_19 : decode cJ8_hugeLength_7cf53 19 = .ok (.ldc 206, 2) := by decide +kernel
theorem dJ8_hugeLength_7cf53_21 : decode cJ8_hugeLength_7cf53 21 = .ok (.invokevirtual 94, 3) := by decide +kernel
theorem dJ8_hugeLength_7cf53_24 : decode cJ8_hugeLength_7cf53 24 = .ok (.iload_n 0, 1) := by decide +kernel
theorem dJ8_hugeLength_7cf53_25 : decode cJ8_hugeLength_7cf53 25 = .ok (.invokevirtual 98, 3) := by decide +kernel
theorem dJ8_hugeLength_7cf53_28 : decode cJ8_hugeLength_7cf53 28 = .ok (.ldc 208, 2) := by decide +kernel
theorem dJ8_hugeLength_7cf53_30 : decode cJ8_hugeLength_7cf53 30 = .ok (.invokevirtual 94, 3) := by decide +kernel
theorem dJ8_hugeLength_7cf53_33 : decode cJ8_hugeLength_7cf53 33 = .ok (.iload_n 1, 1) := by decide +kernel
theorem dJ8_hugeLength_7cf53_34 : decode cJ8_hugeLength_7cf53 34 = .ok (.invokevirtual 98, 3) := by decide +kernel
theorem dJ8_hugeLength_7cf53_37 : decode cJ8_hugeLength_7cf53 37 = .ok (.ldc 210, 2) := by decide +kernel
theorem dJ8_hugeLength_7cf53_39 : decode cJ8_hugeLength_7cf53 39 = .ok (.invokevirtual 94, 3) := by decide +kernel
theorem dJ8_hugeLength_7cf53_42 : decode cJ8_hugeLength_7cf53 42 = .ok (.invokevirtual 101, 3) := by decide +kernel
theorem dJ8_hugeLength_7cf53_45 : decode cJ8_hugeLength_7cf53 45 = .ok (.invokespecial 212, 3) := by decide +kernel
theorem dJ8_hugeLength_7cf53_48 : decode cJ8_hugeLength_7cf53 48 = .ok (.athrow, 1) := by decide +kernel
theorem dJ8_hugeLength_7cf53_49 : decode cJ8_hugeLength_7cf53 49 = .ok (.iload_n 2, 1) := by decide +kernel
theorem dJ8_hugeLength_7cf53_50 : decode cJ8_hugeLength_7cf53 50 = .ok (.ldc 200, 2) := by decide +kernel
theorem dJ8_hugeLength_7cf53_52 : decode cJ8_hugeLength_7cf53 52 = .ok (.if_icmp .gt 6, 3) := by decide +kernel
theorem dJ8_hugeLength_7cf53_55 : decode cJ8_hugeLength_7cf53 55 = .ok (.ldc 200, 2) := by decide +kernel
theorem dJ8_hugeLength_7cf53_57 : decode cJ8_hugeLength_7cf53 57 = .ok (.ireturn, 1) := by decide +kernel
theorem dJ8_hugeLength_7cf53_58 : decode cJ8_hugeLength_7cf53 58 = .ok (.iload_n 2, 1) := by decide +kernel
theorem dJ8_hugeLength_7cf53_59 : decode cJ8_hugeLength_7cf53 59 = .ok (.ireturn, 1) := by decide +kernel
theorem dJ3_checkIndex_8e157_0 : decode cJ3_checkIndex_8e157 0 = .ok (.iload_n 0, 1) := by decide +kernel
theorem dJ3_checkIndex_8e157_1 : decode cJ3_checkIndex_8e157 1 = .ok (.ifCond .lt 8, 3) := by decide +kernel
theorem dJ3_checkIndex_8e157_4 : decode cJ3_checkIndex_8e157 4 = .ok (.iload_n 0, 1) := by decide +kernel
theorem dJ3_checkIndex_8e157_5 : decode cJ3_checkIndex_8e157 5 = .ok (.iload_n 1, 1) := by decide +kernel
theorem dJ3_checkIndex_8e157_6 : decode cJ3_checkIndex_8e157 6 = .ok (.if_icmp .lt 10, 3) := by decide +kernel
theorem dJ3_checkIndex_8e157_9 : decode cJ3_checkIndex_8e157 9 = .ok (.aload_n 2, 1) := by decide +kernel
theorem dJ3_checkIndex_8e157_10 : decode cJ3_checkIndex_8e157 10 = .ok (.iload_n 0, 1) := by decide +kernel
theorem dJ3_checkIndex_8e157_11 : decode cJ3_checkIndex_8e157 11 = .ok (.iload_n 1, 1) := by decide +kernel
theorem dJ3_checkIndex_8e157_12 : decode cJ3_checkIndex_8e157 12 = .ok (.invokestatic 95, 3) := by decide +kernel
theorem dJ3_checkIndex_8e157_15 : decode cJ3_checkIndex_8e157 15 = .ok (.athrow, 1) := by decide +kernel
theorem dJ3_checkIndex_8e157_16 : decode cJ3_checkIndex_8e157 16 = .ok (.iload_n 0, 1) := by decide +kernel
theorem dJ3_checkIndex_8e157_17 : decode cJ3_checkIndex_8e157 17 = .ok (.ireturn, 1) := by decide +kernel
theorem dL_put_0 : decode cL_put 0 = .ok (.aload 5, 2) := by decide +kernel
theorem dL_put_2 : decode cL_put 2 = .ok (.iconst 0, 1) := by decide +kernel
theorem dL_put_3 : decode cL_put 3 = .ok (.aload_n 0, 1) := by decide +kernel
theorem dL_put_4 : decode cL_put 4 = .ok (.iload_n 1, 1) := by decide +kernel
theorem dL_put_5 : decode cL_put 5 = .ok (.iload_n 2, 1) := by decide +kernel
theorem dL_put_6 : decode cL_put 6 = .ok (.iload_n 3, 1) := by decide +kernel
theorem dL_put_7 : decode cL_put 7 = .ok (.iload 4, 2) := by decide +kernel
theorem dL_put_9 : decode cL_put 9 = .ok (.invokevirtual 7, 3) := by decide +kernel
theorem dL_put_12 : decode cL_put 12 = .ok (.i2l, 1) := by decide +kernel
theorem dL_put_13 : decode cL_put 13 = .ok (.lastore, 1) := by decide +kernel
theorem dL_put_14 : decode cL_put 14 = .ok (.goto 7, 3) := by decide +kernel
theorem dL_put_17 : decode cL_put 17 = .ok (.astore 6, 2) := by decide +kernel
theorem dL_put_19 : decode cL_put 19 = .ok (.iconst 1, 1) := by decide +kernel
theorem dL_put_20 : decode cL_put 20 = .ok (.ireturn, 1) := by decide +kernel
theorem dL_put_21 : decode cL_put 21 = .ok (.iconst 0, 1) := by decide +kernel
theorem dL_put_22 : decode cL_put 22 = .ok (.ireturn, 1) := by decide +kernel
theorem dL_run_0 : decode cL_run 0 = .ok (.aload_n 3, 1) := by decide +kernel
theorem dL_run_1 : decode cL_run 1 = .ok (.iconst 0, 1) := by decide +kernel
theorem dL_run_2 : decode cL_run 2 = .ok (.aload_n 0, 1) := by decide +kernel
theorem dL_run_3 : decode cL_run 3 = .ok (.iload_n 1, 1) := by decide +kernel
theorem dL_run_4 : decode cL_run 4 = .ok (.iload_n 2, 1) := by decide +kernel
theorem dL_run_5 : decode cL_run 5 = .ok (.invokevirtual 15, 3) := by decide +kernel
theorem dL_run_8 : decode cL_run 8 = .ok (.i2l, 1) := by decide +kernel
theorem dL_run_9 : decode cL_run 9 = .ok (.lastore, 1) := by decide +kernel
theorem dL_run_10 : decode cL_run 10 = .ok (.goto 11, 3) := by decide +kernel
theorem dL_run_13 : decode cL_run 13 = .ok (.astore 4, 2) := by decide +kernel
theorem dL_run_15 : decode cL_run 15 = .ok (.iconst 1, 1) := by decide +kernel
theorem dL_run_16 : decode cL_run 16 = .ok (.ireturn, 1) := by decide +kernel
theorem dL_run_17 : decode cL_run 17 = .ok (.astore 4, 2) := by decide +kernel
theorem dL_run_19 : decode cL_run 19 = .ok (.iconst 2, 1) := by decide +kernel
theorem dL_run_20 : decode cL_run 20 = .ok (.ireturn, 1) := by decide +kernel
theorem dL_run_21 : decode cL_run 21 = .ok (.iconst 0, 1) := by decide +kernel
theorem dL_run_22 : decode cL_run 22 = .ok (.ireturn, 1) := by decide +kernel
theorem dL_turn_0 : decode cL_turn 0 = .ok (.aload_n 2, 1) := by decide +kernel
theorem dL_turn_1 : decode cL_turn 1 = .ok (.iconst 0, 1) := by decide +kernel
theorem dL_turn_2 : decode cL_turn 2 = .ok (.aload_n 0, 1) := by decide +kernel
theorem dL_turn_3 : decode cL_turn 3 = .ok (.iload_n 1, 1) := by decide +kernel
theorem dL_turn_4 : decode cL_turn 4 = .ok (.invokevirtual 23, 3) := by decide +kernel
theorem dL_turn_7 : decode cL_turn 7 = .ok (.i2l, 1) := by decide +kernel
theorem dL_turn_8 : decode cL_turn 8 = .ok (.lastore, 1) := by decide +kernel
theorem dL_turn_9 : decode cL_turn 9 = .ok (.goto 6, 3) := by decide +kernel
theorem dL_turn_12 : decode cL_turn 12 = .ok (.astore_n 3, 1) := by decide +kernel
theorem dL_turn_13 : decode cL_turn 13 = .ok (.iconst 1, 1) := by decide +kernel
theorem dL_turn_14 : decode cL_turn 14 = .ok (.ireturn, 1) := by decide +kernel
theorem dL_turn_15 : decode cL_turn 15 = .ok (.iconst 0, 1) := by decide +kernel
theorem dL_turn_16 : decode cL_turn 16 = .ok (.ireturn, 1) := by decide +kernel
theorem dL_thread_0 : decode cL_thread 0 = .ok (.aload_n 3, 1) := by decide +kernel
theorem dL_thread_1 : decode cL_thread 1 = .ok (.iconst 0, 1) := by decide +kernel
theorem dL_thread_2 : decode cL_thread 2 = .ok (.aload_n 0, 1) := by decide +kernel
theorem dL_thread_3 : decode cL_thread 3 = .ok (.iload_n 1, 1) := by decide +kernel
theorem dL_thread_4 : decode cL_thread 4 = .ok (.iload_n 2, 1) := by decide +kernel
theorem dL_thread_5 : decode cL_thread 5 = .ok (.invokevirtual 27, 3) := by decide +kernel
theorem dL_thread_8 : decode cL_thread 8 = .ok (.i2l, 1) := by decide +kernel
theorem dL_thread_9 : decode cL_thread 9 = .ok (.lastore, 1) := by decide +kernel
theorem dL_thread_10 : decode cL_thread 10 = .ok (.goto 11, 3) := by decide +kernel
theorem dL_thread_13 : decode cL_thread 13 = .ok (.astore 4, 2) := by decide +kernel
theorem dL_thread_15 : decode cL_thread 15 = .ok (.iconst 1, 1) := by decide +kernel
theorem dL_thread_16 : decode cL_thread 16 = .ok (.ireturn, 1) := by decide +kernel
theorem dL_thread_17 : decode cL_thread 17 = .ok (.astore 4, 2) := by decide +kernel
theorem dL_thread_19 : decode cL_thread 19 = .ok (.iconst 2, 1) := by decide +kernel
theorem dL_thread_20 : decode cL_thread 20 = .ok (.ireturn, 1) := by decide +kernel
theorem dL_thread_21 : decode cL_thread 21 = .ok (.iconst 0, 1) := by decide +kernel
theorem dL_thread_22 : decode cL_thread 22 = .ok (.ireturn, 1) := by decide +kernel
theorem dL_register_0 : decode cL_register 0 = .ok (.aload_n 3, 1) := by decide +kernel
theorem dL_register_1 : decode cL_register 1 = .ok (.iconst 0, 1) := by decide +kernel
theorem dL_register_2 : decode cL_register 2 = .ok (.aload_n 0, 1) := by decide +kernel
theorem dL_register_3 : decode cL_register 3 = .ok (.iload_n 1, 1) := by decide +kernel
theorem dL_register_4 : decode cL_register 4 = .ok (.iload_n 2, 1) := by decide +kernel
theorem dL_register_5 : decode cL_register 5 = .ok (.invokevirtual 30, 3) := by decide +kernel
theorem dL_register_8 : decode cL_register 8 = .ok (.lastore, 1) := by decide +kernel
theorem dL_register_9 : decode cL_register 9 = .ok (.goto 7, 3) := by decide +kernel
theorem dL_register_12 : decode cL_register 12 = .ok (.astore 4, 2) := by decide +kernel
theorem dL_register_14 : decode cL_register 14 = .ok (.iconst 1, 1) := by decide +kernel
theorem dL_register_15 : decode cL_register 15 = .ok (.ireturn, 1) := by decide +kernel
theorem dL_register_16 : decode cL_register 16 = .ok (.iconst 0, 1) := by decide +kernel
theorem dL_register_17 : decode cL_register 17 = .ok (.ireturn, 1) := by decide +kernel
theorem dL_global_0 : decode cL_global 0 = .ok (.aload_n 2, 1) := by decide +kernel
theorem dL_global_1 : decode cL_global 1 = .ok (.iconst 0, 1) := by decide +kernel
theorem dL_global_2 : decode cL_global 2 = .ok (.aload_n 0, 1) := by decide +kernel
theorem dL_global_3 : decode cL_global 3 = .ok (.iload_n 1, 1) := by decide +kernel
theorem dL_global_4 : decode cL_global 4 = .ok (.invokevirtual 34, 3) := by decide +kernel
theorem dL_global_7 : decode cL_global 7 = .ok (.lastore, 1) := by decide +kernel
theorem dL_global_8 : decode cL_global 8 = .ok (.goto 6, 3) := by decide +kernel
theorem dL_global_11 : decode cL_global 11 = .ok (.astore_n 3, 1) := by decide +kernel
theorem dL_global_12 : decode cL_global 12 = .ok (.iconst 1, 1) := by decide +kernel
theorem dL_global_13 : decode cL_global 13 = .ok (.ireturn, 1) := by decide +kernel
theorem dL_global_14 : decode cL_global 14 = .ok (.iconst 0, 1) := by decide +kernel
theorem dL_global_15 : decode cL_global 15 = .ok (.ireturn, 1) := by decide +kernel
theorem dL_place_0 : decode cL_place 0 = .ok (.aload_n 3, 1) := by decide +kernel
theorem dL_place_1 : decode cL_place 1 = .ok (.iconst 0, 1) := by decide +kernel
theorem dL_place_2 : decode cL_place 2 = .ok (.aload_n 0, 1) := by decide +kernel
theorem dL_place_3 : decode cL_place 3 = .ok (.iload_n 1, 1) := by decide +kernel
theorem dL_place_4 : decode cL_place 4 = .ok (.iload_n 2, 1) := by decide +kernel
theorem dL_place_5 : decode cL_place 5 = .ok (.invokevirtual 38, 3) := by decide +kernel
theorem dL_place_8 : decode cL_place 8 = .ok (.lastore, 1) := by decide +kernel
theorem dL_place_9 : decode cL_place 9 = .ok (.goto 11, 3) := by decide +kernel
theorem dL_place_12 : decode cL_place 12 = .ok (.astore 4, 2) := by decide +kernel
theorem dL_place_14 : decode cL_place 14 = .ok (.iconst 1, 1) := by decide +kernel
theorem dL_place_15 : decode cL_place 15 = .ok (.ireturn, 1) := by decide +kernel
theorem dL_place_16 : decode cL_place 16 = .ok (.astore 4, 2) := by decide +kernel
theorem dL_place_18 : decode cL_place 18 = .ok (.iconst 2, 1) := by decide +kernel
theorem dL_place_19 : decode cL_place 19 = .ok (.ireturn, 1) := by decide +kernel
theorem dL_place_20 : decode cL_place 20 = .ok (.iconst 0, 1) := by decide +kernel
theorem dL_place_21 : decode cL_place 21 = .ok (.ireturn, 1) := by decide +kernel
theorem dL_output_0 : decode cL_output 0 = .ok (.aload_n 2, 1) := by decide +kernel
theorem dL_output_1 : decode cL_output 1 = .ok (.iconst 0, 1) := by decide +kernel
theorem dL_output_2 : decode cL_output 2 = .ok (.aload_n 0, 1) := by decide +kernel
theorem dL_output_3 : decode cL_output 3 = .ok (.iload_n 1, 1) := by decide +kernel
theorem dL_output_4 : decode cL_output 4 = .ok (.invokevirtual 41, 3) := by decide +kernel
theorem dL_output_7 : decode cL_output 7 = .ok (.i2l, 1) := by decide +kernel
theorem dL_output_8 : decode cL_output 8 = .ok (.lastore, 1) := by decide +kernel
theorem dL_output_9 : decode cL_output 9 = .ok (.goto 6, 3) := by decide +kernel
theorem dL_output_12 : decode cL_output 12 = .ok (.astore_n 3, 1) := by decide +kernel
theorem dL_output_13 : decode cL_output 13 = .ok (.iconst 1, 1) := by decide +kernel
theorem dL_output_14 : decode cL_output 14 = .ok (.ireturn, 1) := by decide +kernel
theorem dL_output_15 : decode cL_output 15 = .ok (.iconst 0, 1) := by decide +kernel
theorem dL_output_16 : decode cL_output 16 = .ok (.ireturn, 1) := by decide +kernel
theorem dL_law_0 : decode cL_law 0 = .ok (.new 8, 3) := by decide +kernel
theorem dL_law_3 : decode cL_law 3 = .ok (.dup, 1) := by decide +kernel
theorem dL_law_4 : decode cL_law 4 = .ok (.invokespecial 46, 3) := by decide +kernel
theorem dL_law_7 : decode cL_law 7 = .ok (.astore_n 1, 1) := by decide +kernel
theorem dL_law_8 : decode cL_law 8 = .ok (.new 47, 3) := by decide +kernel
theorem dL_law_11 : decode cL_law 11 = .ok (.dup, 1) := by decide +kernel
theorem dL_law_12 : decode cL_law 12 = .ok (.invokespecial 49, 3) := by decide +kernel
theorem dL_law_15 : decode cL_law 15 = .ok (.astore_n 2, 1) := by decide +kernel
theorem dL_law_16 : decode cL_law 16 = .ok (.iconst 1, 1) := by decide +kernel
theorem dL_law_17 : decode cL_law 17 = .ok (.newarray .long, 2) := by decide +kernel
theorem dL_law_19 : decode cL_law 19 = .ok (.astore_n 3, 1) := by decide +kernel
theorem dL_law_20 : decode cL_law 20 = .ok (.iconst 0, 1) := by decide +kernel
theorem dL_law_21 : decode cL_law 21 = .ok (.istore 4, 2) := by decide +kernel
theorem dL_law_23 : decode cL_law 23 = .ok (.iload 4, 2) := by decide +kernel
theorem dL_law_25 : decode cL_law 25 = .ok (.aload_n 0, 1) := by decide +kernel
theorem dL_law_26 : decode cL_law 26 = .ok (.arraylength, 1) := by decide +kernel
theorem dL_law_27 : decode cL_law 27 = .ok (.iconst 5, 1) := by decide +kernel
theorem dL_law_28 : decode cL_law 28 = .ok (.isub, 1) := by decide +kernel
theorem dL_law_29 : decode cL_law 29 = .ok (.if_icmp .gt 636, 3) := by decide +kernel
theorem dL_law_32 : decode cL_law 32 = .ok (.aload_n 0, 1) := by decide +kernel
theorem dL_law_33 : decode cL_law 33 = .ok (.iload 4, 2) := by decide +kernel
theorem dL_law_35 : decode cL_law 35 = .ok (.iaload, 1) := by decide +kernel
theorem dL_law_36 : decode cL_law 36 = .ok (.bipush 15, 2) := by decide +kernel
theorem dL_law_38 : decode cL_law 38 = .ok (.iand, 1) := by decide +kernel
theorem dL_law_39 : decode cL_law 39 = .ok (.tableswitch 620 0 9 #[53, 145, 213, 269, 337, 404, 459, 526, 582, 595], 53) := by decide +kernel
theorem dL_law_92 : decode cL_law 92 = .ok (.aload_n 1, 1) := by decide +kernel
theorem dL_law_93 : decode cL_law 93 = .ok (.aload_n 0, 1) := by decide +kernel
theorem dL_law_94 : decode cL_law 94 = .ok (.iload 4, 2) := by decide +kernel
theorem dL_law_96 : decode cL_law 96 = .ok (.iconst 1, 1) := by decide +kernel
theorem dL_law_97 : decode cL_law 97 = .ok (.iadd, 1) := by decide +kernel
theorem dL_law_98 : decode cL_law 98 = .ok (.iaload, 1) := by decide +kernel
theorem dL_law_99 : decode cL_law 99 = .ok (.aload_n 0, 1) := by decide +kernel
theorem dL_law_100 : decode cL_law 100 = .ok (.iload 4, 2) := by decide +kernel
theorem dL_law_102 : decode cL_law 102 = .ok (.iconst 2, 1) := by decide +kernel
theorem dL_law_103 : decode cL_law 103 = .ok (.iadd, 1) := by decide +kernel
theorem dL_law_104 : decode cL_law 104 = .ok (.iaload, 1) := by decide +kernel
theorem dL_law_105 : decode cL_law 105 = .ok (.aload_n 0, 1) := by decide +kernel
theorem dL_law_106 : decode cL_law 106 = .ok (.iload 4, 2) := by decide +kernel
theorem dL_law_108 : decode cL_law 108 = .ok (.iconst 3, 1) := by decide +kernel
theorem dL_law_109 : decode cL_law 109 = .ok (.iadd, 1) := by decide +kernel
theorem dL_law_110 : decode cL_law 110 = .ok (.iaload, 1) := by decide +kernel
theorem dL_law_111 : decode cL_law 111 = .ok (.aload_n 0, 1) := by decide +kernel
theorem dL_law_112 : decode cL_law 112 = .ok (.iload 4, 2) := by decide +kernel
theorem dL_law_114 : decode cL_law 114 = .ok (.iconst 4, 1) := by decide +kernel
theorem dL_law_115 : decode cL_law 115 = .ok (.iadd, 1) := by decide +kernel
theorem dL_law_116 : decode cL_law 116 = .ok (.iaload, 1) := by decide +kernel
theorem dL_law_117 : decode cL_law 117 = .ok (.aload_n 3, 1) := by decide +kernel
theorem dL_law_118 : decode cL_law 118 = .ok (.invokestatic 50, 3) := by decide +kernel
theorem dL_law_121 : decode cL_law 121 = .ok (.istore 5, 2) := by decide +kernel
theorem dL_law_123 : decode cL_law 123 = .ok (.aload_n 2, 1) := by decide +kernel
theorem dL_law_124 : decode cL_law 124 = .ok (.aload_n 0, 1) := by decide +kernel
theorem dL_law_125 : decode cL_law 125 = .ok (.iload 4, 2) := by decide +kernel
theorem dL_law_127 : decode cL_law 127 = .ok (.iconst 1, 1) := by decide +kernel
theorem dL_law_128 : decode cL_law 128 = .ok (.iadd, 1) := by decide +kernel
theorem dL_law_129 : decode cL_law 129 = .ok (.iaload, 1) := by decide +kernel
theorem dL_law_130 : decode cL_law 130 = .ok (.aload_n 0, 1) := by decide +kernel
theorem dL_law_131 : decode cL_law 131 = .ok (.iload 4, 2) := by decide +kernel
theorem dL_law_133 : decode cL_law 133 = .ok (.iconst 2, 1) := by decide +kernel
theorem dL_law_134 : decode cL_law 134 = .ok (.iadd, 1) := by decide +kernel
theorem dL_law_135 : decode cL_law 135 = .ok (.iaload, 1) := by decide +kernel
theorem dL_law_136 : decode cL_law 136 = .ok (.aload_n 0, 1) := by decide +kernel
theorem dL_law_137 : decode cL_law 137 = .ok (.iload 4, 2) := by decide +kernel
theorem dL_law_139 : decode cL_law 139 = .ok (.iconst 3, 1) := by decide +kernel
theorem dL_law_140 : decode cL_law 140 = .ok (.iadd, 1) := by decide +kernel
theorem dL_law_141 : decode cL_law 141 = .ok (.iaload, 1) := by decide +kernel
theorem dL_law_142 : decode cL_law 142 = .ok (.aload_n 0, 1) := by decide +kernel
theorem dL_law_143 : decode cL_law 143 = .ok (.iload 4, 2) := by decide +kernel
theorem dL_law_145 : decode cL_law 145 = .ok (.iconst 4, 1) := by decide +kernel
theorem dL_law_146 : decode cL_law 146 = .ok (.iadd, 1) := by decide +kernel
theorem dL_law_147 : decode cL_law 147 = .ok (.iaload, 1) := by decide +kernel
theorem dL_law_148 : decode cL_law 148 = .ok (.invokevirtual 55, 3) := by decide +kernel
theorem dL_law_151 : decode cL_law 151 = .ok (.istore 6, 2) := by decide +kernel
theorem dL_law_153 : decode cL_law 153 = .ok (.aload_n 2, 1) := by decide +kernel
theorem dL_law_154 : decode cL_law 154 = .ok (.invokevirtual 56, 3) := by decide +kernel
theorem dL_law_157 : decode cL_law 157 = .ok (.iload 5, 2) := by decide +kernel
theorem dL_law_159 : decode cL_law 159 = .ok (.if_icmp .eq 5, 3) := by decide +kernel
theorem dL_law_162 : decode cL_law 162 = .ok (.iconst 0, 1) := by decide +kernel
theorem dL_law_163 : decode cL_law 163 = .ok (.ireturn, 1) := by decide +kernel
theorem dL_law_164 : decode cL_law 164 = .ok (.iload 5, 2) := by decide +kernel
theorem dL_law_166 : decode cL_law 166 = .ok (.ifCond .ne 15, 3) := by decide +kernel
theorem dL_law_169 : decode cL_law 169 = .ok (.aload_n 3, 1) := by decide +kernel
theorem dL_law_170 : decode cL_law 170 = .ok (.iconst 0, 1) := by decide +kernel
theorem dL_law_171 : decode cL_law 171 = .ok (.laload, 1) := by decide +kernel
theorem dL_law_172 : decode cL_law 172 = .ok (.iload 6, 2) := by decide +kernel
theorem dL_law_174 : decode cL_law 174 = .ok (.i2l, 1) := by decide +kernel
theorem dL_law_175 : decode cL_law 175 = .ok (.lcmp, 1) := by decide +kernel
theorem dL_law_176 : decode cL_law 176 = .ok (.ifCond .eq 5, 3) := by decide +kernel
theorem dL_law_179 : decode cL_law 179 = .ok (.iconst 0, 1) := by decide +kernel
theorem dL_law_180 : decode cL_law 180 = .ok (.ireturn, 1) := by decide +kernel
theorem dL_law_181 : decode cL_law 181 = .ok (.goto 478, 3) := by decide +kernel
theorem dL_law_184 : decode cL_law 184 = .ok (.aload_n 1, 1) := by decide +kernel
theorem dL_law_185 : decode cL_law 185 = .ok (.aload_n 0, 1) := by decide +kernel
theorem dL_law_186 : decode cL_law 186 = .ok (.iload 4, 2) := by decide +kernel
theorem dL_law_188 : decode cL_law 188 = .ok (.iconst 1, 1) := by decide +kernel
theorem dL_law_189 : decode cL_law 189 = .ok (.iadd, 1) := by decide +kernel
theorem dL_law_190 : decode cL_law 190 = .ok (.iaload, 1) := by decide +kernel
theorem dL_law_191 : decode cL_law 191 = .ok (.aload_n 0, 1) := by decide +kernel
theorem dL_law_192 : decode cL_law 192 = .ok (.iload 4, 2) := by decide +kernel
theorem dL_law_194 : decode cL_law 194 = .ok (.iconst 2, 1) := by decide +kernel
theorem dL_law_195 : decode cL_law 195 = .ok (.iadd, 1) := by decide +kernel
theorem dL_law_196 : decode cL_law 196 = .ok (.iaload, 1) := by decide +kernel
theorem dL_law_197 : decode cL_law 197 = .ok (.aload_n 3, 1) := by decide +kernel
theorem dL_law_198 : decode cL_law 198 = .ok (.invokestatic 60, 3) := by decide +kernel
theorem dL_law_201 : decode cL_law 201 = .ok (.istore 5, 2) := by decide +kernel
theorem dL_law_203 : decode cL_law 203 = .ok (.aload_n 2, 1) := by decide +kernel
theorem dL_law_204 : decode cL_law 204 = .ok (.aload_n 0, 1) := by decide +kernel
theorem dL_law_205 : decode cL_law 205 = .ok (.iload 4, 2) := by decide +kernel
theorem dL_law_207 : decode cL_law 207 = .ok (.iconst 1, 1) := by decide +kernel
theorem dL_law_208 : decode cL_law 208 = .ok (.iadd, 1) := by decide +kernel
theorem dL_law_209 : decode cL_law 209 = .ok (.iaload, 1) := by decide +kernel
theorem dL_law_210 : decode cL_law 210 = .ok (.aload_n 0, 1) := by decide +kernel
theorem dL_law_211 : decode cL_law 211 = .ok (.iload 4, 2) := by decide +kernel
theorem dL_law_213 : decode cL_law 213 = .ok (.iconst 2, 1) := by decide +kernel
theorem dL_law_214 : decode cL_law 214 = .ok (.iadd, 1) := by decide +kernel
theorem dL_law_215 : decode cL_law 215 = .ok (.iaload, 1) := by decide +kernel
theorem dL_law_216 : decode cL_law 216 = .ok (.invokevirtual 63, 3) := by decide +kernel
theorem dL_law_219 : decode cL_law 219 = .ok (.istore 6, 2) := by decide +kernel
theorem dL_law_221 : decode cL_law 221 = .ok (.aload_n 2, 1) := by decide +kernel
theorem dL_law_222 : decode cL_law 222 = .ok (.invokevirtual 56, 3) := by decide +kernel
theorem dL_law_225 : decode cL_law 225 = .ok (.iload 5, 2) := by decide +kernel
theorem dL_law_227 : decode cL_law 227 = .ok (.if_icmp .eq 5, 3) := by decide +kernel
theorem dL_law_230 : decode cL_law 230 = .ok (.iconst 0, 1) := by decide +kernel
theorem dL_law_231 : decode cL_law 231 = .ok (.ireturn, 1) := by decide +kernel
theorem dL_law_232 : decode cL_law 232 = .ok (.iload 5, 2) := by decide +kernel
theorem dL_law_234 : decode cL_law 234 = .ok (.ifCond .ne 15, 3) := by decide +kernel
theorem dL_law_237 : decode cL_law 237 = .ok (.aload_n 3, 1) := by decide +kernel
theorem dL_law_238 : decode cL_law 238 = .ok (.iconst 0, 1) := by decide +kernel
theorem dL_law_239 : decode cL_law 239 = .ok (.laload, 1) := by decide +kernel
theorem dL_law_240 : decode cL_law 240 = .ok (.iload 6, 2) := by decide +kernel
theorem dL_law_242 : decode cL_law 242 = .ok (.i2l, 1) := by decide +kernel
theorem dL_law_243 : decode cL_law 243 = .ok (.lcmp, 1) := by decide +kernel
theorem dL_law_244 : decode cL_law 244 = .ok (.ifCond .eq 5, 3) := by decide +kernel
theorem dL_law_247 : decode cL_law 247 = .ok (.iconst 0, 1) := by decide +kernel
theorem dL_law_248 : decode cL_law 248 = .ok (.ireturn, 1) := by decide +kernel
theorem dL_law_249 : decode cL_law 249 = .ok (.goto 410, 3) := by decide +kernel
theorem dL_law_252 : decode cL_law 252 = .ok (.aload_n 1, 1) := by decide +kernel
theorem dL_law_253 : decode cL_law 253 = .ok (.aload_n 0, 1) := by decide +kernel
theorem dL_law_254 : decode cL_law 254 = .ok (.iload 4, 2) := by decide +kernel
theorem dL_law_256 : decode cL_law 256 = .ok (.iconst 1, 1) := by decide +kernel
theorem dL_law_257 : decode cL_law 257 = .ok (.iadd, 1) := by decide +kernel
theorem dL_law_258 : decode cL_law 258 = .ok (.iaload, 1) := by decide +kernel
theorem dL_law_259 : decode cL_law 259 = .ok (.aload_n 3, 1) := by decide +kernel
theorem dL_law_260 : decode cL_law 260 = .ok (.invokestatic 64, 3) := by decide +kernel
theorem dL_law_263 : decode cL_law 263 = .ok (.istore 5, 2) := by decide +kernel
theorem dL_law_265 : decode cL_law 265 = .ok (.aload_n 2, 1) := by decide +kernel
theorem dL_law_266 : decode cL_law 266 = .ok (.aload_n 0, 1) := by decide +kernel
theorem dL_law_267 : decode cL_law 267 = .ok (.iload 4, 2) := by decide +kernel
theorem dL_law_269 : decode cL_law 269 = .ok (.iconst 1, 1) := by decide +kernel
theorem dL_law_270 : decode cL_law 270 = .ok (.iadd, 1) := by decide +kernel
theorem dL_law_271 : decode cL_law 271 = .ok (.iaload, 1) := by decide +kernel
theorem dL_law_272 : decode cL_law 272 = .ok (.invokevirtual 67, 3) := by decide +kernel
theorem dL_law_275 : decode cL_law 275 = .ok (.istore 6, 2) := by decide +kernel
theorem dL_law_277 : decode cL_law 277 = .ok (.aload_n 2, 1) := by decide +kernel
theorem dL_law_278 : decode cL_law 278 = .ok (.invokevirtual 56, 3) := by decide +kernel
theorem dL_law_281 : decode cL_law 281 = .ok (.iload 5, 2) := by decide +kernel
theorem dL_law_283 : decode cL_law 283 = .ok (.if_icmp .eq 5, 3) := by decide +kernel
theorem dL_law_286 : decode cL_law 286 = .ok (.iconst 0, 1) := by decide +kernel
theorem dL_law_287 : decode cL_law 287 = .ok (.ireturn, 1) := by decide +kernel
theorem dL_law_288 : decode cL_law 288 = .ok (.iload 5, 2) := by decide +kernel
theorem dL_law_290 : decode cL_law 290 = .ok (.ifCond .ne 15, 3) := by decide +kernel
theorem dL_law_293 : decode cL_law 293 = .ok (.aload_n 3, 1) := by decide +kernel
theorem dL_law_294 : decode cL_law 294 = .ok (.iconst 0, 1) := by decide +kernel
theorem dL_law_295 : decode cL_law 295 = .ok (.laload, 1) := by decide +kernel
theorem dL_law_296 : decode cL_law 296 = .ok (.iload 6, 2) := by decide +kernel
theorem dL_law_298 : decode cL_law 298 = .ok (.i2l, 1) := by decide +kernel
theorem dL_law_299 : decode cL_law 299 = .ok (.lcmp, 1) := by decide +kernel
theorem dL_law_300 : decode cL_law 300 = .ok (.ifCond .eq 5, 3) := by decide +kernel
theorem dL_law_303 : decode cL_law 303 = .ok (.iconst 0, 1) := by decide +kernel
theorem dL_law_304 : decode cL_law 304 = .ok (.ireturn, 1) := by decide +kernel
theorem dL_law_305 : decode cL_law 305 = .ok (.goto 354, 3) := by decide +kernel
theorem dL_law_308 : decode cL_law 308 = .ok (.aload_n 1, 1) := by decide +kernel
theorem dL_law_309 : decode cL_law 309 = .ok (.aload_n 0, 1) := by decide +kernel
theorem dL_law_310 : decode cL_law 310 = .ok (.iload 4, 2) := by decide +kernel
theorem dL_law_312 : decode cL_law 312 = .ok (.iconst 1, 1) := by decide +kernel
theorem dL_law_313 : decode cL_law 313 = .ok (.iadd, 1) := by decide +kernel
theorem dL_law_314 : decode cL_law 314 = .ok (.iaload, 1) := by decide +kernel
theorem dL_law_315 : decode cL_law 315 = .ok (.aload_n 0, 1) := by decide +kernel
theorem dL_law_316 : decode cL_law 316 = .ok (.iload 4, 2) := by decide +kernel
theorem dL_law_318 : decode cL_law 318 = .ok (.iconst 2, 1) := by decide +kernel
theorem dL_law_319 : decode cL_law 319 = .ok (.iadd, 1) := by decide +kernel
theorem dL_law_320 : decode cL_law 320 = .ok (.iaload, 1) := by decide +kernel
theorem dL_law_321 : decode cL_law 321 = .ok (.aload_n 3, 1) := by decide +kernel
theorem dL_law_322 : decode cL_law 322 = .ok (.invokestatic 68, 3) := by decide +kernel
theorem dL_law_325 : decode cL_law 325 = .ok (.istore 5, 2) := by decide +kernel
theorem dL_law_327 : decode cL_law 327 = .ok (.aload_n 2, 1) := by decide +kernel
theorem dL_law_328 : decode cL_law 328 = .ok (.aload_n 0, 1) := by decide +kernel
theorem dL_law_329 : decode cL_law 329 = .ok (.iload 4, 2) := by decide +kernel
theorem dL_law_331 : decode cL_law 331 = .ok (.iconst 1, 1) := by decide +kernel
theorem dL_law_332 : decode cL_law 332 = .ok (.iadd, 1) := by decide +kernel
theorem dL_law_333 : decode cL_law 333 = .ok (.iaload, 1) := by decide +kernel
theorem dL_law_334 : decode cL_law 334 = .ok (.aload_n 0, 1) := by decide +kernel
theorem dL_law_335 : decode cL_law 335 = .ok (.iload 4, 2) := by decide +kernel
theorem dL_law_337 : decode cL_law 337 = .ok (.iconst 2, 1) := by decide +kernel
theorem dL_law_338 : decode cL_law 338 = .ok (.iadd, 1) := by decide +kernel
theorem dL_law_339 : decode cL_law 339 = .ok (.iaload, 1) := by decide +kernel
theorem dL_law_340 : decode cL_law 340 = .ok (.invokevirtual 70, 3) := by decide +kernel
theorem dL_law_343 : decode cL_law 343 = .ok (.istore 6, 2) := by decide +kernel
theorem dL_law_345 : decode cL_law 345 = .ok (.aload_n 2, 1) := by decide +kernel
theorem dL_law_346 : decode cL_law 346 = .ok (.invokevirtual 56, 3) := by decide +kernel
theorem dL_law_349 : decode cL_law 349 = .ok (.iload 5, 2) := by decide +kernel
theorem dL_law_351 : decode cL_law 351 = .ok (.if_icmp .eq 5, 3) := by decide +kernel
theorem dL_law_354 : decode cL_law 354 = .ok (.iconst 0, 1) := by decide +kernel
theorem dL_law_355 : decode cL_law 355 = .ok (.ireturn, 1) := by decide +kernel
theorem dL_law_356 : decode cL_law 356 = .ok (.iload 5, 2) := by decide +kernel
theorem dL_law_358 : decode cL_law 358 = .ok (.ifCond .ne 15, 3) := by decide +kernel
theorem dL_law_361 : decode cL_law 361 = .ok (.aload_n 3, 1) := by decide +kernel
theorem dL_law_362 : decode cL_law 362 = .ok (.iconst 0, 1) := by decide +kernel
theorem dL_law_363 : decode cL_law 363 = .ok (.laload, 1) := by decide +kernel
theorem dL_law_364 : decode cL_law 364 = .ok (.iload 6, 2) := by decide +kernel
theorem dL_law_366 : decode cL_law 366 = .ok (.i2l, 1) := by decide +kernel
theorem dL_law_367 : decode cL_law 367 = .ok (.lcmp, 1) := by decide +kernel
theorem dL_law_368 : decode cL_law 368 = .ok (.ifCond .eq 5, 3) := by decide +kernel
theorem dL_law_371 : decode cL_law 371 = .ok (.iconst 0, 1) := by decide +kernel
theorem dL_law_372 : decode cL_law 372 = .ok (.ireturn, 1) := by decide +kernel
theorem dL_law_373 : decode cL_law 373 = .ok (.goto 286, 3) := by decide +kernel
theorem dL_law_376 : decode cL_law 376 = .ok (.aload_n 1, 1) := by decide +kernel
theorem dL_law_377 : decode cL_law 377 = .ok (.aload_n 0, 1) := by decide +kernel
theorem dL_law_378 : decode cL_law 378 = .ok (.iload 4, 2) := by decide +kernel
theorem dL_law_380 : decode cL_law 380 = .ok (.iconst 1, 1) := by decide +kernel
theorem dL_law_381 : decode cL_law 381 = .ok (.iadd, 1) := by decide +kernel
theorem dL_law_382 : decode cL_law 382 = .ok (.iaload, 1) := by decide +kernel
theorem dL_law_383 : decode cL_law 383 = .ok (.aload_n 0, 1) := by decide +kernel
theorem dL_law_384 : decode cL_law 384 = .ok (.iload 4, 2) := by decide +kernel
theorem dL_law_386 : decode cL_law 386 = .ok (.iconst 2, 1) := by decide +kernel
theorem dL_law_387 : decode cL_law 387 = .ok (.iadd, 1) := by decide +kernel
theorem dL_law_388 : decode cL_law 388 = .ok (.iaload, 1) := by decide +kernel
theorem dL_law_389 : decode cL_law 389 = .ok (.aload_n 3, 1) := by decide +kernel
theorem dL_law_390 : decode cL_law 390 = .ok (.invokestatic 71, 3) := by decide +kernel
theorem dL_law_393 : decode cL_law 393 = .ok (.istore 5, 2) := by decide +kernel
theorem dL_law_395 : decode cL_law 395 = .ok (.aload_n 2, 1) := by decide +kernel
theorem dL_law_396 : decode cL_law 396 = .ok (.aload_n 0, 1) := by decide +kernel
theorem dL_law_397 : decode cL_law 397 = .ok (.iload 4, 2) := by decide +kernel
theorem dL_law_399 : decode cL_law 399 = .ok (.iconst 1, 1) := by decide +kernel
theorem dL_law_400 : decode cL_law 400 = .ok (.iadd, 1) := by decide +kernel
theorem dL_law_401 : decode cL_law 401 = .ok (.iaload, 1) := by decide +kernel
theorem dL_law_402 : decode cL_law 402 = .ok (.aload_n 0, 1) := by decide +kernel
theorem dL_law_403 : decode cL_law 403 = .ok (.iload 4, 2) := by decide +kernel
theorem dL_law_405 : decode cL_law 405 = .ok (.iconst 2, 1) := by decide +kernel
theorem dL_law_406 : decode cL_law 406 = .ok (.iadd, 1) := by decide +kernel
theorem dL_law_407 : decode cL_law 407 = .ok (.iaload, 1) := by decide +kernel
theorem dL_law_408 : decode cL_law 408 = .ok (.invokevirtual 73, 3) := by decide +kernel
theorem dL_law_411 : decode cL_law 411 = .ok (.lstore 6, 2) := by decide +kernel
theorem dL_law_413 : decode cL_law 413 = .ok (.aload_n 2, 1) := by decide +kernel
theorem dL_law_414 : decode cL_law 414 = .ok (.invokevirtual 56, 3) := by decide +kernel
theorem dL_law_417 : decode cL_law 417 = .ok (.iload 5, 2) := by decide +kernel
theorem dL_law_419 : decode cL_law 419 = .ok (.if_icmp .eq 5, 3) := by decide +kernel
theorem dL_law_422 : decode cL_law 422 = .ok (.iconst 0, 1) := by decide +kernel
theorem dL_law_423 : decode cL_law 423 = .ok (.ireturn, 1) := by decide +kernel
theorem dL_law_424 : decode cL_law 424 = .ok (.iload 5, 2) := by decide +kernel
theorem dL_law_426 : decode cL_law 426 = .ok (.ifCond .ne 14, 3) := by decide +kernel
theorem dL_law_429 : decode cL_law 429 = .ok (.aload_n 3, 1) := by decide +kernel
theorem dL_law_430 : decode cL_law 430 = .ok (.iconst 0, 1) := by decide +kernel
theorem dL_law_431 : decode cL_law 431 = .ok (.laload, 1) := by decide +kernel
theorem dL_law_432 : decode cL_law 432 = .ok (.lload 6, 2) := by decide +kernel
theorem dL_law_434 : decode cL_law 434 = .ok (.lcmp, 1) := by decide +kernel
theorem dL_law_435 : decode cL_law 435 = .ok (.ifCond .eq 5, 3) := by decide +kernel
theorem dL_law_438 : decode cL_law 438 = .ok (.iconst 0, 1) := by decide +kernel
theorem dL_law_439 : decode cL_law 439 = .ok (.ireturn, 1) := by decide +kernel
theorem dL_law_440 : decode cL_law 440 = .ok (.goto 219, 3) := by decide +kernel
theorem dL_law_443 : decode cL_law 443 = .ok (.aload_n 1, 1) := by decide +kernel
theorem dL_law_444 : decode cL_law 444 = .ok (.aload_n 0, 1) := by decide +kernel
theorem dL_law_445 : decode cL_law 445 = .ok (.iload 4, 2) := by decide +kernel
theorem dL_law_447 : decode cL_law 447 = .ok (.iconst 1, 1) := by decide +kernel
theorem dL_law_448 : decode cL_law 448 = .ok (.iadd, 1) := by decide +kernel
theorem dL_law_449 : decode cL_law 449 = .ok (.iaload, 1) := by decide +kernel
theorem dL_law_450 : decode cL_law 450 = .ok (.aload_n 3, 1) := by decide +kernel
theorem dL_law_451 : decode cL_law 451 = .ok (.invokestatic 74, 3) := by decide +kernel
theorem dL_law_454 : decode cL_law 454 = .ok (.istore 5, 2) := by decide +kernel
theorem dL_law_456 : decode cL_law 456 = .ok (.aload_n 2, 1) := by decide +kernel
theorem dL_law_457 : decode cL_law 457 = .ok (.aload_n 0, 1) := by decide +kernel
theorem dL_law_458 : decode cL_law 458 = .ok (.iload 4, 2) := by decide +kernel
theorem dL_law_460 : decode cL_law 460 = .ok (.iconst 1, 1) := by decide +kernel
theorem dL_law_461 : decode cL_law 461 = .ok (.iadd, 1) := by decide +kernel
theorem dL_law_462 : decode cL_law 462 = .ok (.iaload, 1) := by decide +kernel
theorem dL_law_463 : decode cL_law 463 = .ok (.invokevirtual 76, 3) := by decide +kernel
theorem dL_law_466 : decode cL_law 466 = .ok (.lstore 6, 2) := by decide +kernel
theorem dL_law_468 : decode cL_law 468 = .ok (.aload_n 2, 1) := by decide +kernel
theorem dL_law_469 : decode cL_law 469 = .ok (.invokevirtual 56, 3) := by decide +kernel
theorem dL_law_472 : decode cL_law 472 = .ok (.iload 5, 2) := by decide +kernel
theorem dL_law_474 : decode cL_law 474 = .ok (.if_icmp .eq 5, 3) := by decide +kernel
theorem dL_law_477 : decode cL_law 477 = .ok (.iconst 0, 1) := by decide +kernel
theorem dL_law_478 : decode cL_law 478 = .ok (.ireturn, 1) := by decide +kernel
theorem dL_law_479 : decode cL_law 479 = .ok (.iload 5, 2) := by decide +kernel
theorem dL_law_481 : decode cL_law 481 = .ok (.ifCond .ne 14, 3) := by decide +kernel
theorem dL_law_484 : decode cL_law 484 = .ok (.aload_n 3, 1) := by decide +kernel
theorem dL_law_485 : decode cL_law 485 = .ok (.iconst 0, 1) := by decide +kernel
theorem dL_law_486 : decode cL_law 486 = .ok (.laload, 1) := by decide +kernel
theorem dL_law_487 : decode cL_law 487 = .ok (.lload 6, 2) := by decide +kernel
theorem dL_law_489 : decode cL_law 489 = .ok (.lcmp, 1) := by decide +kernel
theorem dL_law_490 : decode cL_law 490 = .ok (.ifCond .eq 5, 3) := by decide +kernel
theorem dL_law_493 : decode cL_law 493 = .ok (.iconst 0, 1) := by decide +kernel
theorem dL_law_494 : decode cL_law 494 = .ok (.ireturn, 1) := by decide +kernel
theorem dL_law_495 : decode cL_law 495 = .ok (.goto 164, 3) := by decide +kernel
theorem dL_law_498 : decode cL_law 498 = .ok (.aload_n 1, 1) := by decide +kernel
theorem dL_law_499 : decode cL_law 499 = .ok (.aload_n 0, 1) := by decide +kernel
theorem dL_law_500 : decode cL_law 500 = .ok (.iload 4, 2) := by decide +kernel
theorem dL_law_502 : decode cL_law 502 = .ok (.iconst 1, 1) := by decide +kernel
theorem dL_law_503 : decode cL_law 503 = .ok (.iadd, 1) := by decide +kernel
theorem dL_law_504 : decode cL_law 504 = .ok (.iaload, 1) := by decide +kernel
theorem dL_law_505 : decode cL_law 505 = .ok (.aload_n 0, 1) := by decide +kernel
theorem dL_law_506 : decode cL_law 506 = .ok (.iload 4, 2) := by decide +kernel
theorem dL_law_508 : decode cL_law 508 = .ok (.iconst 2, 1) := by decide +kernel
theorem dL_law_509 : decode cL_law 509 = .ok (.iadd, 1) := by decide +kernel
theorem dL_law_510 : decode cL_law 510 = .ok (.iaload, 1) := by decide +kernel
theorem dL_law_511 : decode cL_law 511 = .ok (.aload_n 3, 1) := by decide +kernel
theorem dL_law_512 : decode cL_law 512 = .ok (.invokestatic 77, 3) := by decide +kernel
theorem dL_law_515 : decode cL_law 515 = .ok (.istore 5, 2) := by decide +kernel
theorem dL_law_517 : decode cL_law 517 = .ok (.aload_n 2, 1) := by decide +kernel
theorem dL_law_518 : decode cL_law 518 = .ok (.aload_n 0, 1) := by decide +kernel
theorem dL_law_519 : decode cL_law 519 = .ok (.iload 4, 2) := by decide +kernel
theorem dL_law_521 : decode cL_law 521 = .ok (.iconst 1, 1) := by decide +kernel
theorem dL_law_522 : decode cL_law 522 = .ok (.iadd, 1) := by decide +kernel
theorem dL_law_523 : decode cL_law 523 = .ok (.iaload, 1) := by decide +kernel
theorem dL_law_524 : decode cL_law 524 = .ok (.aload_n 0, 1) := by decide +kernel
theorem dL_law_525 : decode cL_law 525 = .ok (.iload 4, 2) := by decide +kernel
theorem dL_law_527 : decode cL_law 527 = .ok (.iconst 2, 1) := by decide +kernel
theorem dL_law_528 : decode cL_law 528 = .ok (.iadd, 1) := by decide +kernel
theorem dL_law_529 : decode cL_law 529 = .ok (.iaload, 1) := by decide +kernel
theorem dL_law_530 : decode cL_law 530 = .ok (.invokevirtual 79, 3) := by decide +kernel
theorem dL_law_533 : decode cL_law 533 = .ok (.lstore 6, 2) := by decide +kernel
theorem dL_law_535 : decode cL_law 535 = .ok (.aload_n 2, 1) := by decide +kernel
theorem dL_law_536 : decode cL_law 536 = .ok (.invokevirtual 56, 3) := by decide +kernel
theorem dL_law_539 : decode cL_law 539 = .ok (.iload 5, 2) := by decide +kernel
theorem dL_law_541 : decode cL_law 541 = .ok (.if_icmp .eq 5, 3) := by decide +kernel
theorem dL_law_544 : decode cL_law 544 = .ok (.iconst 0, 1) := by decide +kernel
theorem dL_law_545 : decode cL_law 545 = .ok (.ireturn, 1) := by decide +kernel
theorem dL_law_546 : decode cL_law 546 = .ok (.iload 5, 2) := by decide +kernel
theorem dL_law_548 : decode cL_law 548 = .ok (.ifCond .ne 14, 3) := by decide +kernel
theorem dL_law_551 : decode cL_law 551 = .ok (.aload_n 3, 1) := by decide +kernel
theorem dL_law_552 : decode cL_law 552 = .ok (.iconst 0, 1) := by decide +kernel
theorem dL_law_553 : decode cL_law 553 = .ok (.laload, 1) := by decide +kernel
theorem dL_law_554 : decode cL_law 554 = .ok (.lload 6, 2) := by decide +kernel
theorem dL_law_556 : decode cL_law 556 = .ok (.lcmp, 1) := by decide +kernel
theorem dL_law_557 : decode cL_law 557 = .ok (.ifCond .eq 5, 3) := by decide +kernel
theorem dL_law_560 : decode cL_law 560 = .ok (.iconst 0, 1) := by decide +kernel
theorem dL_law_561 : decode cL_law 561 = .ok (.ireturn, 1) := by decide +kernel
theorem dL_law_562 : decode cL_law 562 = .ok (.goto 97, 3) := by decide +kernel
theorem dL_law_565 : decode cL_law 565 = .ok (.aload_n 1, 1) := by decide +kernel
theorem dL_law_566 : decode cL_law 566 = .ok (.aload_n 0, 1) := by decide +kernel
theorem dL_law_567 : decode cL_law 567 = .ok (.iload 4, 2) := by decide +kernel
theorem dL_law_569 : decode cL_law 569 = .ok (.iconst 1, 1) := by decide +kernel
theorem dL_law_570 : decode cL_law 570 = .ok (.iadd, 1) := by decide +kernel
theorem dL_law_571 : decode cL_law 571 = .ok (.iaload, 1) := by decide +kernel
theorem dL_law_572 : decode cL_law 572 = .ok (.aload_n 3, 1) := by decide +kernel
theorem dL_law_573 : decode cL_law 573 = .ok (.invokestatic 80, 3) := by decide +kernel
theorem dL_law_576 : decode cL_law 576 = .ok (.istore 5, 2) := by decide +kernel
theorem dL_law_578 : decode cL_law 578 = .ok (.aload_n 2, 1) := by decide +kernel
theorem dL_law_579 : decode cL_law 579 = .ok (.aload_n 0, 1) := by decide +kernel
theorem dL_law_580 : decode cL_law 580 = .ok (.iload 4, 2) := by decide +kernel
theorem dL_law_582 : decode cL_law 582 = .ok (.iconst 1, 1) := by decide +kernel
theorem dL_law_583 : decode cL_law 583 = .ok (.iadd, 1) := by decide +kernel
theorem dL_law_584 : decode cL_law 584 = .ok (.iaload, 1) := by decide +kernel
theorem dL_law_585 : decode cL_law 585 = .ok (.invokevirtual 82, 3) := by decide +kernel
theorem dL_law_588 : decode cL_law 588 = .ok (.istore 6, 2) := by decide +kernel
theorem dL_law_590 : decode cL_law 590 = .ok (.aload_n 2, 1) := by decide +kernel
theorem dL_law_591 : decode cL_law 591 = .ok (.invokevirtual 56, 3) := by decide +kernel
theorem dL_law_594 : decode cL_law 594 = .ok (.iload 5, 2) := by decide +kernel
theorem dL_law_596 : decode cL_law 596 = .ok (.if_icmp .eq 5, 3) := by decide +kernel
theorem dL_law_599 : decode cL_law 599 = .ok (.iconst 0, 1) := by decide +kernel
theorem dL_law_600 : decode cL_law 600 = .ok (.ireturn, 1) := by decide +kernel
theorem dL_law_601 : decode cL_law 601 = .ok (.iload 5, 2) := by decide +kernel
theorem dL_law_603 : decode cL_law 603 = .ok (.ifCond .ne 15, 3) := by decide +kernel
theorem dL_law_606 : decode cL_law 606 = .ok (.aload_n 3, 1) := by decide +kernel
theorem dL_law_607 : decode cL_law 607 = .ok (.iconst 0, 1) := by decide +kernel
theorem dL_law_608 : decode cL_law 608 = .ok (.laload, 1) := by decide +kernel
theorem dL_law_609 : decode cL_law 609 = .ok (.iload 6, 2) := by decide +kernel
theorem dL_law_611 : decode cL_law 611 = .ok (.i2l, 1) := by decide +kernel
theorem dL_law_612 : decode cL_law 612 = .ok (.lcmp, 1) := by decide +kernel
theorem dL_law_613 : decode cL_law 613 = .ok (.ifCond .eq 5, 3) := by decide +kernel
theorem dL_law_616 : decode cL_law 616 = .ok (.iconst 0, 1) := by decide +kernel
theorem dL_law_617 : decode cL_law 617 = .ok (.ireturn, 1) := by decide +kernel
theorem dL_law_618 : decode cL_law 618 = .ok (.goto 41, 3) := by decide +kernel
theorem dL_law_621 : decode cL_law 621 = .ok (.aload_n 1, 1) := by decide +kernel
theorem dL_law_622 : decode cL_law 622 = .ok (.invokevirtual 83, 3) := by decide +kernel
theorem dL_law_625 : decode cL_law 625 = .ok (.aload_n 2, 1) := by decide +kernel
theorem dL_law_626 : decode cL_law 626 = .ok (.invokevirtual 86, 3) := by decide +kernel
theorem dL_law_629 : decode cL_law 629 = .ok (.if_icmp .eq 30, 3) := by decide +kernel
theorem dL_law_632 : decode cL_law 632 = .ok (.iconst 0, 1) := by decide +kernel
theorem dL_law_633 : decode cL_law 633 = .ok (.ireturn, 1) := by decide +kernel
theorem dL_law_634 : decode cL_law 634 = .ok (.aload_n 1, 1) := by decide +kernel
theorem dL_law_635 : decode cL_law 635 = .ok (.aload_n 0, 1) := by decide +kernel
theorem dL_law_636 : decode cL_law 636 = .ok (.iload 4, 2) := by decide +kernel
theorem dL_law_638 : decode cL_law 638 = .ok (.iconst 1, 1) := by decide +kernel
theorem dL_law_639 : decode cL_law 639 = .ok (.iadd, 1) := by decide +kernel
theorem dL_law_640 : decode cL_law 640 = .ok (.iaload, 1) := by decide +kernel
theorem dL_law_641 : decode cL_law 641 = .ok (.invokevirtual 87, 3) := by decide +kernel
theorem dL_law_644 : decode cL_law 644 = .ok (.aload_n 2, 1) := by decide +kernel
theorem dL_law_645 : decode cL_law 645 = .ok (.aload_n 0, 1) := by decide +kernel
theorem dL_law_646 : decode cL_law 646 = .ok (.iload 4, 2) := by decide +kernel
theorem dL_law_648 : decode cL_law 648 = .ok (.iconst 1, 1) := by decide +kernel
theorem dL_law_649 : decode cL_law 649 = .ok (.iadd, 1) := by decide +kernel
theorem dL_law_650 : decode cL_law 650 = .ok (.iaload, 1) := by decide +kernel
theorem dL_law_651 : decode cL_law 651 = .ok (.invokevirtual 90, 3) := by decide +kernel
theorem dL_law_654 : decode cL_law 654 = .ok (.if_icmp .eq 5, 3) := by decide +kernel
theorem dL_law_657 : decode cL_law 657 = .ok (.iconst 0, 1) := by decide +kernel
theorem dL_law_658 : decode cL_law 658 = .ok (.ireturn, 1) := by decide +kernel
theorem dL_law_659 : decode cL_law 659 = .ok (.iinc 4 5, 3) := by decide +kernel
theorem dL_law_662 : decode cL_law 662 = .ok (.goto (-639), 3) := by decide +kernel
theorem dL_law_665 : decode cL_law 665 = .ok (.iconst 1, 1) := by decide +kernel
theorem dL_law_666 : decode cL_law 666 = .ok (.ireturn, 1) := by decide +kernel
end
section
/-! ===== BEGIN words of one list among another's, by their places ===== -/
theorem goodIn_r {big : List Cond} (ws : List Cond) (ps : List Nat) (hp : ws = ps.filterMap (fun i => big[i]?)) (h : ws.all goodWord = true) : GoodIn big ws := by
  intro w hw
  have h1 := List.all_eq_true.mp h w hw
  rw [hp] at hw
  obtain ⟨i, -, hi⟩ := List.mem_filterMap.mp hw
  have hm : w ∈ big := by first | exact List.mem_of_getElem? hi | exact List.getElem?_mem hi
  exact ⟨hm, good_of_word h1⟩
theorem goodIn_app {big a b : List Cond} (ha : GoodIn big a) (hb : GoodIn big b) : GoodIn big (a ++ b) := fun w h => (List.mem_append.mp h).elim (ha w) (hb w)
theorem goodIn_ca {big a b : List Cond} {c : Cond} (ha : GoodIn big (c :: a)) (hb : GoodIn big b) : GoodIn big (c :: (a ++ b)) := fun w h => (List.mem_cons.mp h).elim (fun e => ha w (List.mem_cons.mpr (Or.inl e))) (fun h => (List.mem_append.mp h).elim (fun h => ha w (List.mem_cons.mpr (Or.inr h))) (hb w))
theorem goodIn_sub {big ws : List Cond} (hm : ∀ w ∈ ws, w ∈ big) (h : ws.all goodWord = true) : GoodIn big ws := fun w hw => ⟨hm w hw, good_of_word (List.all_eq_true.mp h w hw)⟩
/-! ===== END ===== -/

/-! ===== BEGIN exceptions that leave a method, and their catching by the caller (launches without stack traces) ===== -/
section VXA
/-! The laws vx_back, vx_callV, vx_callS, vx_callSW, vx_throw0, vx_throwS follow proofs of the library, with one case more: JvmDerived/Free/Laws.lean (Back.of_free), Shelf42/LK1.lean (callV, callS), Shelf/KitTraced.lean (throwNew0V, throwNewS). -/
/-- where a method has thrown q: the class by its name, the cell, what was written, the world -/
def vx_T (XC : String → State → State → Prop) (st : State) (q : Addr) (t : State) (mc ms : Nat) (free : Addr → Prop) : Prop :=
  ∃ (E : String) (ce : Cell) (L : List Loc), XC E st t ∧ t.heap[q]? = some ce ∧ ce.vm = .none ∧ st.vm.findClass E = some ce.cls ∧ st.WarmedH t.vm ∧ st.sameButNew ({ t with vm := st.vm } : State) L mc ms ∧ ∀ z ∈ L, free z.base
def vx_Q (Qc : Array Value → State → Outcome → State → Prop) (XC : String → State → State → Prop) (mc ms : Nat) (free : Addr → Prop) : Array Value → State → Outcome → State → Prop := fun a st o t =>
  (Qc a st o t ∧ ∃ L, FrameEnd st o t L mc ms ∧ ∀ q ∈ L, free q.base) ∨ ∃ q, o = .threw q ∧ vx_T XC st q t mc ms free
/-- a callee that returns or throws -/
def vx_Met (l : Launch) (y : MethodName) (ws : List Cond) (rm : Room) (Pc : Array Value → State → Prop) (Qc : Array Value → State → Outcome → State → Prop) (XC : String → State → State → Prop) (mc ms : Nat) (free : Addr → Prop) : Prop :=
  MetFree l y (headSpec ws rm) Pc (fun _ _ _ _ _ => True) (vx_Q Qc XC mc ms free)
def vx_Post (XC : String → State → State → Prop) (mc ms : Nat) (free : Addr → Prop) : Pt → Array Value → Addr → Pt → Prop := fun A a q B =>
  ∃ (g : JFrame) (mk : MethodId) (t : State) (L : List Loc) (E : String) (ce : Cell), B.U.heap = t.heap ∧ B.U.vm = t.vm ∧ XC E (A.U.calling g mk a) t ∧ t.heap[q]? = some ce ∧ ce.vm = .none ∧ A.U.vm.findClass E = some ce.cls ∧ B.locs = A.locs ++ L ∧ (∀ z ∈ L, free z.base) ∧ B.cells = A.cells + mc ∧ B.slots = A.slots + ms
def vx_Back (l : Launch) (R : Room) (p : Program) (e : Env) (below : List Frame) (s : State) (sargs : Array Value) (y : MethodName) (len W9 : Nat)
    (Pre : Pt → Array Value → Prop) (Post : Pt → Array Value → Option Value → Pt → Prop) (PostX : Pt → Array Value → Addr → Pt → Prop) : Prop :=
  ∀ (m : MethodId) (meth : Method) (c : Code) (A : Pt) (g : JFrame) (ig : Instr) (mk : MethodId) (a : Array Value),
    Stand p l e R s m sargs below meth c A.U A.locs A.cells A.slots → g.method = m → g.locals.size = c.maxLocals → decode c.code g.pc = .ok (ig, len) →
    2 * g.monitorRoom + (g.stack.map fun v => v.category).sum ≤ W9 → A.U.methodNamed? y = some mk → Pre A a →
    (∃ (v : Option Value) (B : Pt), Stand p l e R s m sargs below meth c B.U B.locs B.cells B.slots ∧ Post A a v B ∧
      Steps p.tables e below (doInvoke e (A.U.setTop g) [] mk a).1 (B.U.setTop { g with pc := g.pc + len, stack := v.toList ++ g.stack })) ∨
    (∃ (q : Addr) (B : Pt), Stand p l e R s m sargs below meth c B.U B.locs B.cells B.slots ∧ PostX A a q B ∧
      Steps p.tables e below (doInvoke e (A.U.setTop g) [] mk a).1 ((B.U.setTop g).pushFrame (.throwing q)))
section Payer
variable {l : Launch} {R : Room} {p : Program} {e : Env} {below : List Frame} {s : State} {sargs : Array Value} {y : MethodName} {len W9 : Nat}
theorem vx_back {ws : List Cond} {rm : Room} {Pc : Array Value → State → Prop} {Qc : Array Value → State → Outcome → State → Prop} {XC : String → State → State → Prop} {mc ms : Nat} {free : Addr → Prop} {bytes : ByteArray} {maxL : Nat} {ret : Option FieldType}
    (hM : vx_Met l y ws rm Pc Qc XC mc ms free) (hblind : FrameBlind Pc) (hrc : rm.cells = mc) (hrs : rm.slots = ms)
    (hframes : rm.frames + 1 ≤ R.frames) (hlocals : W9 + (maxL + 11) + rm.locals ≤ R.locals)
    (hws : ∀ w ∈ ws, ∀ a' U, s.WarmedH U.vm → w.before a' U = true) (hcode : Cond.code y bytes maxL ret ∈ ws) (hinit : ∀ a' U, s.WarmedH U.vm → (Cond.initialized y.cls).before a' U = true) :
    vx_Back l R p e below s sargs y len W9 (PreOf R mc ms Pc) (PostOf Qc mc ms free) (vx_Post XC mc ms free) := by
  intro m meth c A g ig mk a X hg hsize hdg hW hn hp
  have h1 : (headSpec ws rm).pre.before a A.U = true := atoms_intro fun w hw => hws w hw _ _ X.warmed
  have h2 : (Cond.code y bytes maxL ret).before a A.U = true := hws _ hcode _ _ X.warmed
  have h3 : (Cond.initialized y.cls).before a A.U = true := hinit _ _ X.warmed
  have h4 : A.cells + (headSpec ws rm).room.cells ≤ R.cells := by rw [show (headSpec ws rm).room.cells = mc from hrc]; exact hp.1
  have h5 : A.slots + (headSpec ws rm).room.slots ≤ R.slots := by rw [show (headSpec ws rm).room.slots = ms from hrs]; exact hp.2.1
  have hPc : Pc a (A.U.calling g mk a) := hblind _ _ _ _ hp.2.2
  obtain ⟨U, Ls, c0, s0⟩ := A
  dsimp only [Pt.U, Pt.locs, Pt.cells, Pt.slots] at h1 h2 h3 h4 h5 X hn hPc ⊢
  obtain ⟨methY, cY, hmY, hcY, -, hlY, -, -, -, -⟩ := Cond.code_spec hn h2
  obtain ⟨kY, hkY, -⟩ := className_of_methodNamed hn
  have hinitY : kY.init = .initialized := Cond.initialized_spec (findClass_of_methodNamed hn) hkY h3
  have h : At U g.method c below := by rw [hg]; exact X.here
  have hlocals9 : W9 + (maxL + 11) + (headSpec ws rm).room.locals ≤ R.locals := hlocals
  have happ : (headSpec ws rm).appliesLoose y e.platform (U.calling g mk a) = true :=
    Spec.appliesLoose_calling (g := g) h hdg hn hkY hinitY
      (X.room_calling (g := g) (R' := (headSpec ws rm).room) hsize hmY hcY hframes (by rw [hlY]; omega) h4 h5) h1
  obtain ⟨mid, hmid⟩ := h.above
  have hfr : (U.setTop g).frames = (.java g :: mid) ++ below := by rw [State.frames_setTop' g h.top, hmid]; rfl
  obtain ⟨o, s₂, hsteps, -, hend, hq⟩ := Steps.callFree hM p X.admits X.cas X.clock (acts := []) hfr happ hPc trivial
  have hq' : vx_Q Qc XC mc ms free a (U.calling g mk a) o s₂ := hq
  rw [State.frames_setTop' g h.top] at hend
  obtain ⟨g₀, hg0⟩ := Option.isSome_iff_exists.mp h.top
  obtain ⟨r, hr⟩ := State.topJava?_eq_some.mp hg0
  have hr' : (({ U with heap := s₂.heap, slotsUsed := s₂.slotsUsed } : State).setVm s₂.vm).frames = .java g₀ :: r := hr
  rcases hq' with ⟨hqc, L, hfe, hL⟩ | ⟨q, rfl, E, ce, L, hx, hce, hcv, hcl, hW₂, hsm, hL⟩
  · obtain ⟨⟨v, rfl⟩, hW₂, e2, q2, q3, q4, q5, q6⟩ := id hfe
    have e3 : s₂ = ({ (U.calling g mk a).setFrames s₂.frames with heap := s₂.heap, slotsUsed := s₂.slotsUsed } : State).setVm s₂.vm := by
      have : s₂ = ({ s₂ with vm := (U.calling g mk a).vm } : State).setVm s₂.vm := rfl
      rw [e2] at this
      exact this
    obtain ⟨c₂, i₂, len₂, hc₂, hd₂, hf₂⟩ := hend
    have hW' : U.WarmedH s₂.vm := hW₂
    have hcc : c₂ = c := by
      have h1 : s₂.code? g.method = U.code? g.method := by
        rw [State.code?_eq, State.code?_eq, hW'.alike.method?]
      exact Option.some.inj (hc₂.symm.trans (h1.trans h.code))
    subst hcc
    have hlen : len₂ = len := by rw [hdg] at hd₂; cases hd₂; rfl
    subst hlen
    have hs₂ : s₂ = (({ U with heap := s₂.heap, slotsUsed := s₂.slotsUsed } : State).setVm s₂.vm).setTop { g with pc := g.pc + len₂, stack := v.toList ++ g.stack } := by
      refine e3.trans ?_
      rw [hf₂, State.calling_eq h.top, State.setFrames_setFrames, State.setTop_of_frames _ hr', hr]
      rfl
    have hsame : U.sameButNew ({ U with heap := s₂.heap, slotsUsed := s₂.slotsUsed } : State) L mc ms := by
      refine ⟨?_, q2, q3, q4, q5, q6⟩
      obtain ⟨t, ht, -⟩ := State.frames_cons hr
      show ({ U with heap := s₂.heap, slotsUsed := s₂.slotsUsed } : State) = { U.setFrames U.frames with heap := s₂.heap, slotsUsed := s₂.slotsUsed }
      rw [State.setFrames_self ht]
    subst hg
    refine Or.inl ⟨v, ⟨(({ U with heap := s₂.heap, slotsUsed := s₂.slotsUsed } : State).setVm s₂.vm), Ls ++ L, c0 + mc, s0 + ms⟩,
      ⟨X.admits, X.cas, X.clock, X.frames, X.room, X.hears, X.method, X.code, (X.here.setHeapUsed s₂.heap s₂.slotsUsed).setVm hW'.alike, X.tail, State.WarmedH.trans X.warmed hW', X.limits, X.bytes, X.same.trans (hsame.setVm s.vm)⟩,
      ⟨g, mk, s₂, L, rfl, rfl, hqc, rfl, hL, rfl, rfl⟩, ?_⟩
    show Steps p.tables e below _ ((({ U with heap := s₂.heap, slotsUsed := s₂.slotsUsed } : State).setVm s₂.vm).setTop { g with pc := g.pc + len₂, stack := v.toList ++ g.stack })
    rw [← hs₂]
    exact hsteps
  · obtain ⟨e2, q2, q3, q4, q5, q6⟩ := id hsm
    have e3 : s₂ = ({ (U.calling g mk a).setFrames s₂.frames with heap := s₂.heap, slotsUsed := s₂.slotsUsed } : State).setVm s₂.vm := by
      have : s₂ = ({ s₂ with vm := (U.calling g mk a).vm } : State).setVm s₂.vm := rfl
      rw [e2] at this
      exact this
    have hf₂ : s₂.frames = .throwing q :: .java g :: U.frames.tail := hend
    have hW' : U.WarmedH s₂.vm := hW₂
    have hs₂ : s₂ = ((({ U with heap := s₂.heap, slotsUsed := s₂.slotsUsed } : State).setVm s₂.vm).setTop g).pushFrame (.throwing q) := by
      refine e3.trans ?_
      rw [hf₂, State.calling_eq h.top, State.setFrames_setFrames, State.pushFrame, State.frames_setTop _ hr', State.setTop_of_frames _ hr', State.setFrames_setFrames, hr]
      rfl
    have hsame : U.sameButNew ({ U with heap := s₂.heap, slotsUsed := s₂.slotsUsed } : State) L mc ms := by
      refine ⟨?_, q2, q3, q4, q5, q6⟩
      obtain ⟨t, ht, -⟩ := State.frames_cons hr
      show ({ U with heap := s₂.heap, slotsUsed := s₂.slotsUsed } : State) = { U.setFrames U.frames with heap := s₂.heap, slotsUsed := s₂.slotsUsed }
      rw [State.setFrames_self ht]
    subst hg
    refine Or.inr ⟨q, ⟨(({ U with heap := s₂.heap, slotsUsed := s₂.slotsUsed } : State).setVm s₂.vm), Ls ++ L, c0 + mc, s0 + ms⟩,
      ⟨X.admits, X.cas, X.clock, X.frames, X.room, X.hears, X.method, X.code, (X.here.setHeapUsed s₂.heap s₂.slotsUsed).setVm hW'.alike, X.tail, State.WarmedH.trans X.warmed hW', X.limits, X.bytes, X.same.trans (hsame.setVm s.vm)⟩,
      ⟨g, mk, s₂, L, E, ce, rfl, rfl, hx, hce, hcv, hcl, rfl, hL, rfl, rfl⟩, ?_⟩
    show Steps p.tables e below _ (((({ U with heap := s₂.heap, slotsUsed := s₂.slotsUsed } : State).setVm s₂.vm).setTop g).pushFrame (.throwing q))
    rw [← hs₂]
    exact hsteps
end Payer
section Calls
variable {p : Program} {l : Launch} {e : Env} {R : Room} {s : State} {m : MethodId} {args : Array Value} {below : List Frame} {meth : Method} {c : Code} {T : State} {locs : List Loc} {cells slots : Nat}
theorem vx_callV (X : Stand p l e R s m args below meth c T locs cells slots) (hexec : p.tables.exec = Jvm.exec) {own C : String} {index : Nat} {y : MethodName} {bytes : ByteArray} {maxL : Nat} {ret : Option FieldType}
    (hown : s.vm.findClass own = some m.cls) (hlink : (Cond.methodLink own index y).before args s = true) (hinst : (Cond.instanceMethod y).before args s = true) (hsel : (Cond.selects C y y).before args s = true)
    (hcode : (Cond.code y bytes maxL ret).before args s = true) (hy : y.cls ≠ "java/lang/invoke/MethodHandle" ∧ y.cls ≠ "java/lang/invoke/VarHandle")
    {W9 : Nat} {Pre : Pt → Array Value → Prop} {Post : Pt → Array Value → Option Value → Pt → Prop} {PostX : Pt → Array Value → Addr → Pt → Prop} (hK : vx_Back l R p e below s args y 3 W9 Pre Post PostX)
    {b : Addr} {cellB : Cell} (hcell : T.heap[b]? = some cellB) (hobj : cellB.vm.isStatics = false) (hcls : s.vm.findClass C = some cellB.cls)
    {g : JFrame} (hg : g.method = m) (hsize : g.locals.size = c.maxLocals) {argsL rest : List Value} (hlen : ∀ sig, parseMethodDescriptor y.desc = some sig → argsL.length = sig.parameters.length)
    (hstack : g.stack = argsL.reverse ++ .ref b :: rest) (hW : 2 * g.monitorRoom + (rest.map fun v => v.category).sum ≤ W9) (hdg : decode c.code g.pc = .ok (.invokevirtual index, 3))
    (hpre : ∀ vm₁, s.WarmedH vm₁ → Pre ⟨T.setVm vm₁, locs, cells, slots⟩ (Value.ref b :: argsL).toArray) :
    (∃ (v : Option Value) (vm₁ : Vm) (B : Pt), s.WarmedH vm₁ ∧ Stand p l e R s m args below meth c B.U B.locs B.cells B.slots ∧ Post ⟨T.setVm vm₁, locs, cells, slots⟩ (Value.ref b :: argsL).toArray v B ∧
      ∀ target, Steps p.tables e below (B.U.setTop { g with pc := g.pc + 3, stack := v.toList ++ rest }) target → Steps p.tables e below (T.setTop g) target) ∨
    (∃ (q : Addr) (vm₁ : Vm) (B : Pt), s.WarmedH vm₁ ∧ Stand p l e R s m args below meth c B.U B.locs B.cells B.slots ∧ PostX ⟨T.setVm vm₁, locs, cells, slots⟩ (Value.ref b :: argsL).toArray q B ∧
      Steps p.tables e below (T.setTop g) ((B.U.setTop { g with stack := rest }).pushFrame (.throwing q))) := by
  obtain ⟨mk, methM, hnamed, hmethM, hstM, habM⟩ := Cond.instanceMethod_spec hinst
  obtain ⟨methM', cM, hmethM', -, -, -, -, -, -, hsigM⟩ := Cond.code_spec hnamed hcode
  cases hmethM.symm.trans hmethM'
  obtain ⟨c2, r2, m2, q1, q2, q3, q4, kP, hkP, hkPi⟩ := Cond.selects_spec hsel
  cases hcls.symm.trans q1
  cases (State.methodFound?_of_named hnamed hy).symm.trans q2
  cases hnamed.symm.trans q3
  have hselP : selectMethod e.platform s.vm cellB.cls mk = .method mk := by rw [Launch.admits_selectMethod X.admits]; exact q4
  obtain ⟨vm₁, X₁, hstep₁⟩ := X.invokevirtual hexec hown hlink hnamed hmethM hstM hkP hkPi hy (a := b) (cell := cellB) hcell
    (fun z h => by rw [h] at hobj; cases hobj) hselP hmethM habM hkP hkPi (g := g) hg (argsL := argsL) (rest := rest) (hlen _ hsigM) hstack hdg
  rcases hK m meth c ⟨T.setVm vm₁, locs, cells, slots⟩ { g with stack := rest } (.invokevirtual index) mk (Value.ref b :: argsL).toArray X₁ hg hsize hdg hW (X₁.named hnamed) (hpre vm₁ X₁.warmed) with ⟨v, B, X', hpost, hsteps⟩ | ⟨q, B, X', hpost, hsteps⟩
  · exact Or.inl ⟨v, vm₁, B, X₁.warmed, X', hpost, fun target h => hstep₁ _ fun acts => by rw [doInvoke_state]; exact hsteps.trans h⟩
  · exact Or.inr ⟨q, vm₁, B, X₁.warmed, X', hpost, hstep₁ _ fun acts => by rw [doInvoke_state]; exact hsteps⟩
theorem vx_callS (X : Stand p l e R s m args below meth c T locs cells slots) (hexec : p.tables.exec = Jvm.exec) {own : String} {index : Nat} {y : MethodName} {bytes : ByteArray} {maxL : Nat} {ret : Option FieldType}
    (hown : s.vm.findClass own = some m.cls) (hlink : (Cond.methodLink own index y).before args s = true) (hstat : (Cond.static y).before args s = true) (hinit : (Cond.initialized y.cls).before args s = true)
    (hcode : (Cond.code y bytes maxL ret).before args s = true) (hy : y.cls ≠ "java/lang/invoke/MethodHandle" ∧ y.cls ≠ "java/lang/invoke/VarHandle")
    {W9 : Nat} {Pre : Pt → Array Value → Prop} {Post : Pt → Array Value → Option Value → Pt → Prop} {PostX : Pt → Array Value → Addr → Pt → Prop} (hK : vx_Back l R p e below s args y 3 W9 Pre Post PostX)
    {g : JFrame} (hg : g.method = m) (hsize : g.locals.size = c.maxLocals) {argsL rest : List Value} (hlen : ∀ sig, parseMethodDescriptor y.desc = some sig → argsL.length = sig.parameters.length)
    (hstack : g.stack = argsL.reverse ++ rest) (hW : 2 * g.monitorRoom + (rest.map fun v => v.category).sum ≤ W9) (hdg : decode c.code g.pc = .ok (.invokestatic index, 3))
    (hpre : ∀ vm₁, s.WarmedH vm₁ → Pre ⟨T.setVm vm₁, locs, cells, slots⟩ argsL.toArray) :
    (∃ (v : Option Value) (vm₁ : Vm) (B : Pt), s.WarmedH vm₁ ∧ Stand p l e R s m args below meth c B.U B.locs B.cells B.slots ∧ Post ⟨T.setVm vm₁, locs, cells, slots⟩ argsL.toArray v B ∧
      ∀ target, Steps p.tables e below (B.U.setTop { g with pc := g.pc + 3, stack := v.toList ++ rest }) target → Steps p.tables e below (T.setTop g) target) ∨
    (∃ (q : Addr) (vm₁ : Vm) (B : Pt), s.WarmedH vm₁ ∧ Stand p l e R s m args below meth c B.U B.locs B.cells B.slots ∧ PostX ⟨T.setVm vm₁, locs, cells, slots⟩ argsL.toArray q B ∧
      Steps p.tables e below (T.setTop g) ((B.U.setTop { g with stack := rest }).pushFrame (.throwing q))) := by
  obtain ⟨mk, hnamed⟩ := Cond.code_named hcode
  obtain ⟨methM, cM, hmethM, -, -, -, -, -, -, hsigM⟩ := Cond.code_spec hnamed hcode
  have hstatic : methM.isStatic = true := Cond.static_spec hnamed hmethM hstat
  obtain ⟨kP, hkP, -⟩ := className_of_methodNamed hnamed
  have hinitP : kP.init = .initialized := Cond.initialized_spec (findClass_of_methodNamed hnamed) hkP hinit
  obtain ⟨vm₁, X₁, hstep₁⟩ := X.invokestatic hexec hown hlink hnamed hmethM hstatic hkP hinitP hy (g := g) hg (argsL := argsL) (rest := rest) (hlen _ hsigM) hstack hdg
  rcases hK m meth c ⟨T.setVm vm₁, locs, cells, slots⟩ { g with stack := rest } (.invokestatic index) mk argsL.toArray X₁ hg hsize hdg hW (X₁.named hnamed) (hpre vm₁ X₁.warmed) with ⟨v, B, X', hpost, hsteps⟩ | ⟨q, B, X', hpost, hsteps⟩
  · exact Or.inl ⟨v, vm₁, B, X₁.warmed, X', hpost, fun target h => hstep₁ _ fun acts => by rw [doInvoke_state]; exact hsteps.trans h⟩
  · exact Or.inr ⟨q, vm₁, B, X₁.warmed, X', hpost, hstep₁ _ fun acts => by rw [doInvoke_state]; exact hsteps⟩
end Calls
theorem vx_cls {s : State} {T : State} {vm₁ : Vm} {E : String} {k : ClassId} (hW : s.WarmedH vm₁) (h : (T.setVm vm₁).vm.findClass E = some k) : s.vm.findClass E = some k := by
  have h1 : vm₁.findClass E = some k := h
  rw [hW.alike.findClass] at h1
  exact h1
/-- the method's frame g, with q thrown over it -/
def vx_W (p : Program) (l : Launch) (e : Env) (R : Room) (s : State) (m : MethodId) (args : Array Value) (below : List Frame) (meth : Method) (c : Code) (H : Heap) (locs : List Loc) (cells slots : Nat) (Q : State → Prop) (g : JFrame) (q : Addr) : Prop :=
  ∀ T : State, T.heap = H → Stand p l e R s m args below meth c T locs cells slots → ∃ t, Steps p.tables e below ((T.setTop g).pushFrame (.throwing q)) t ∧ Q t
def vx_Run (p : Program) (l : Launch) (e : Env) (R : Room) (s : State) (m : MethodId) (args : Array Value) (below : List Frame) (meth : Method) (c : Code) (H : Heap) (locs : List Loc) (cells slots mc ms : Nat) (g : JFrame) (rest : List Value) (Qa : State → Outcome → State → Prop) (XC : String → State → State → Prop) (free : Addr → Prop) : Prop :=
  ∀ T : State, T.heap = H → Stand p l e R s m args below meth c T locs cells slots →
    (∃ (v : Option Value) (st₀ t T' : State) (L : List Loc), st₀.heap = H ∧ Stand p l e R s m args below meth c T' (locs ++ L) (cells + mc) (slots + ms) ∧ (∀ q ∈ L, free q.base) ∧ T'.heap = t.heap ∧ T'.vm = t.vm ∧ Qa st₀ (.returned v) t ∧
      Goes p e below T g T' { g with pc := g.pc + 3, stack := v.toList ++ rest }) ∨
    (∃ (q : Addr) (st₀ t T' : State) (L : List Loc) (E : String) (ce : Cell), st₀.heap = H ∧ Stand p l e R s m args below meth c T' (locs ++ L) (cells + mc) (slots + ms) ∧ (∀ z ∈ L, free z.base) ∧ T'.heap = t.heap ∧ T'.vm = t.vm ∧ XC E st₀ t ∧ t.heap[q]? = some ce ∧ ce.vm = .none ∧ s.vm.findClass E = some ce.cls ∧
      Steps p.tables e below (T.setTop g) ((T'.setTop { g with stack := rest }).pushFrame (.throwing q)))
def vx_X {S : Type} (px : S → Prop) (B : String → S → State → Prop) (A : Nat → Prop) : String → State → State → Prop := fun E st t => ∃ u : S, px u ∧ B E u t ∧ va_F A st t
section Runs
variable {p : Program} {l : Launch} {e : Env} {R : Room} {s : State} {m : MethodId} {args : Array Value} {below : List Frame} {meth : Method} {c : Code} {H : Heap} {locs : List Loc} {cells slots : Nat}
variable {y : MethodName} {bytes cc : ByteArray} {maxL nL mc ms n index : Nat} {ret : Option FieldType} {ws : List Cond} {rm : Room} {Pc : Array Value → State → Prop} {Qc : Array Value → State → Outcome → State → Prop} {XC : String → State → State → Prop} {free : Addr → Prop} {Ts : List Cond} {own C : String} {b : Addr} {As rest : List Value} {g : JFrame}
theorem vx_callBack (cb : CallB R s args own index y bytes maxL ret ws rm mc ms n) (hM : vx_Met l y ws rm Pc Qc XC mc ms free) (hbl : FrameBlind Pc) : vx_Back l R p e below s args y 3 8 (PreOf R mc ms Pc) (PostOf Qc mc ms free) (vx_Post XC mc ms free) := by
  obtain ⟨hrc, hrs, hfr, hlo, hws, hcw, -, hini, -⟩ := cb
  exact vx_back (bytes := bytes) (maxL := maxL) (ret := ret) hM hbl hrc hrs hfr hlo hws hcw (fun a' U hW => word_at hW (Or.inl (by first | rfl | simp [Cond.onTables, Cond.keeps, Cond.steady])) hini)
theorem vx_runV (S : CallFix p m c cc nL s args Ts own) (hM : vx_Met l y ws rm Pc Qc XC mc ms free) (cw : CallW R s args own C index y bytes maxL ret ws rm mc ms n) (hp : PreV s H C b Pc As)
    (hg : g.method = m) (hn : As.length = n) (hsize : g.locals.size = nL) (hstack : g.stack = As.reverse ++ .ref b :: rest) (hW : 2 * g.monitorRoom + (rest.map fun v => v.category).sum ≤ 8) (hdg : decode cc g.pc = .ok (.invokevirtual index, 3)) (hf : cells + mc ≤ R.cells ∧ slots + ms ≤ R.slots) :
    vx_Run p l e R s m args below meth c H locs cells slots mc ms g rest (Qc (Value.ref b :: As).toArray) XC free := by
  have hK : vx_Back l R p e below s args y 3 8 (PreOf R mc ms Pc) (PostOf Qc mc ms free) (vx_Post XC mc ms free) := vx_callBack cw.1 hM hp.1
  obtain ⟨⟨-, -, -, -, -, -, hcode, -, hy, hlen, hl⟩, hin, hse⟩ := cw
  obtain ⟨hx, hb, hml, ho, -⟩ := S
  obtain ⟨-, ⟨cellB, hcB, hoB, hclB⟩, hPc⟩ := hp
  intro T hT X
  rcases vx_callV X hx (C := C) (bytes := bytes) (maxL := maxL) (ret := ret) ho hl hin hse hcode hy hK (by rw [hT]; exact hcB) hoB hclB hg (hsize.trans hml.symm) (argsL := As) (rest := rest) (fun sig h => hn.trans (hlen sig h)) hstack hW (by rw [hb]; exact hdg)
    (fun vm₁ hW₁ => ⟨hf.1, hf.2, hPc (T.setVm vm₁) hT hW₁⟩) with ⟨v, vm₁, ⟨U', l2, c2, s2⟩, hW₁, X', ⟨g', mk, t, L, e1, e2, hq, h1, hL, h2, h3⟩, st⟩ | ⟨q, vm₁, ⟨U', l2, c2, s2⟩, hW₁, X', ⟨g', mk, t, L, E, ce, e1, e2, hq, hce, hcv, hcl, h1, hL, h2, h3⟩, st⟩
  · dsimp only [Pt.U, Pt.locs, Pt.cells, Pt.slots] at X' e1 e2 h1 h2 h3 st
    subst h1; subst h2; subst h3
    exact Or.inl ⟨v, (T.setVm vm₁).calling g' mk (Value.ref b :: As).toArray, t, U', L, hT, X', hL, e1, e2, hq, st⟩
  · dsimp only [Pt.U, Pt.locs, Pt.cells, Pt.slots] at X' e1 e2 h1 h2 h3 st hcl
    subst h1; subst h2; subst h3
    exact Or.inr ⟨q, (T.setVm vm₁).calling g' mk (Value.ref b :: As).toArray, t, U', L, E, ce, hT, X', hL, e1, e2, hq, hce, hcv, vx_cls hW₁ hcl, st⟩
theorem vx_runS (S : CallFix p m c cc nL s args Ts own) (hM : vx_Met l y ws rm Pc Qc XC mc ms free) (cw : CallB R s args own index y bytes maxL ret ws rm mc ms n ∧ (Cond.static y).before args s = true) (hp : PreS s H Pc As)
    (hg : g.method = m) (hn : As.length = n) (hsize : g.locals.size = nL) (hstack : g.stack = As.reverse ++ rest) (hW : 2 * g.monitorRoom + (rest.map fun v => v.category).sum ≤ 8) (hdg : decode cc g.pc = .ok (.invokestatic index, 3)) (hf : cells + mc ≤ R.cells ∧ slots + ms ≤ R.slots) :
    vx_Run p l e R s m args below meth c H locs cells slots mc ms g rest (Qc As.toArray) XC free := by
  have hK : vx_Back l R p e below s args y 3 8 (PreOf R mc ms Pc) (PostOf Qc mc ms free) (vx_Post XC mc ms free) := vx_callBack cw.1 hM hp.1
  obtain ⟨⟨-, -, -, -, -, -, hcode, hini, hy, hlen, hl⟩, hstt⟩ := cw
  obtain ⟨hx, hb, hml, ho, -⟩ := S
  intro T hT X
  rcases vx_callS X hx (bytes := bytes) (maxL := maxL) (ret := ret) ho hl hstt hini hcode hy hK hg (hsize.trans hml.symm) (argsL := As) (rest := rest) (fun sig h => hn.trans (hlen sig h)) hstack hW (by rw [hb]; exact hdg)
    (fun vm₁ hW₁ => ⟨hf.1, hf.2, hp.2 (T.setVm vm₁) hT hW₁⟩) with ⟨v, vm₁, ⟨U', l2, c2, s2⟩, hW₁, X', ⟨g', mk, t, L, e1, e2, hq, h1, hL, h2, h3⟩, st⟩ | ⟨q, vm₁, ⟨U', l2, c2, s2⟩, hW₁, X', ⟨g', mk, t, L, E, ce, e1, e2, hq, hce, hcv, hcl, h1, hL, h2, h3⟩, st⟩
  · dsimp only [Pt.U, Pt.locs, Pt.cells, Pt.slots] at X' e1 e2 h1 h2 h3 st
    subst h1; subst h2; subst h3
    exact Or.inl ⟨v, (T.setVm vm₁).calling g' mk As.toArray, t, U', L, hT, X', hL, e1, e2, hq, st⟩
  · dsimp only [Pt.U, Pt.locs, Pt.cells, Pt.slots] at X' e1 e2 h1 h2 h3 st hcl
    subst h1; subst h2; subst h3
    exact Or.inr ⟨q, (T.setVm vm₁).calling g' mk As.toArray, t, U', L, E, ce, hT, X', hL, e1, e2, hq, hce, hcv, vx_cls hW₁ hcl, st⟩
end Runs
section Rows
variable {p : Program} {l : Launch} {e : Env} {R : Room} {s : State} {m : MethodId} {args : Array Value} {below : List Frame} {meth : Method} {c : Code} {H : Heap} {locs : List Loc} {cells slots : Nat} {Q : State → Prop}
variable {mc ms : Nat} {free : Addr → Prop} {A0 A1 : Nat → Prop} {H0 : Heap} {a : Array Value} {pc : Nat} {ls : Array Slot} {st0 rest : List Value}
theorem vx_keep {st₀ t T' : State} {L : List Loc} (h0 : st₀.heap = H) (e1 : T'.heap = t.heap) (hS : va_S A0 H0 H locs) (hA : ∀ q, q < H.size → A1 q → A0 q) (hf : ∀ q, free q → A0 q) (hL : ∀ q ∈ L, free q.base) (hF : va_F A1 st₀ t) :
    H.size ≤ T'.heap.size ∧ (∀ q : Nat, q < H.size → ¬ A1 q → T'.heap[q]? = H[q]?) ∧ va_S A0 H0 T'.heap (locs ++ L) := by
  obtain ⟨hz, hk⟩ := hF
  rw [h0] at hz hk
  exact ⟨by rw [e1]; exact hz, fun q h1 h2 => by rw [e1]; exact hk q h1 h2,
    ⟨Nat.le_trans hS.1 (by rw [e1]; exact hz), fun q h1 h2 => by rw [e1, hk q (Nat.lt_of_lt_of_le h1 hS.1) (fun z => h2 (hA q (Nat.lt_of_lt_of_le h1 hS.1) z))]; exact hS.2.1 q h1 h2, fun q hq => by
      rcases List.mem_append.mp hq with h | h
      · exact hS.2.2 q h
      · exact hf _ (hL q h)⟩⟩
theorem vx_calli {S SX : Type} {post : Int32 → S → Prop} {px : SX → Prop} {B : S → State → Prop} {BX : String → SX → State → Prop} {AX : Nat → Prop} (hr : vx_Run p l e R s m args below meth c H locs cells slots mc ms (F0 m pc ls st0) rest (va_Qi post B A1 a) (vx_X px BX AX) free) (hS : va_S A0 H0 H locs) (hA : ∀ q, q < H.size → A1 q → A0 q) (hf : ∀ q, free q → A0 q) (hAX : ∀ q, q < H.size → AX q → A0 q)
    (kx : ∀ (E : String) (ce : Cell) (q9 : Addr) (u : SX) (t : State) (H1 : Heap) (locs1 : List Loc), t.heap = H1 → s.vm.Alike t.vm → px u → BX E u t → H.size ≤ H1.size → (∀ q : Nat, q < H.size → ¬ AX q → H1[q]? = H[q]?) → va_S A0 H0 H1 locs1 → H1[q9]? = some ce → ce.vm = .none → s.vm.findClass E = some ce.cls → vx_W p l e R s m args below meth c H1 locs1 (cells + mc) (slots + ms) Q (F0 m pc ls rest) q9)
    (kk : ∀ (r : Int32) (u : S) (t : State) (H1 : Heap) (locs1 : List Loc), t.heap = H1 → s.vm.Alike t.vm → post r u → B u t → H.size ≤ H1.size → (∀ q : Nat, q < H.size → ¬ A1 q → H1[q]? = H[q]?) → va_S A0 H0 H1 locs1 → W p l e R s m args below meth c H1 locs1 (cells + mc) (slots + ms) Q (F0 m (pc + 3) ls (.int r :: rest))) : W p l e R s m args below meth c H locs cells slots Q (F0 m pc ls st0) := by
  intro T hT X
  rcases hr T hT X with ⟨v, st₀, t, T', L, h0, X', hL, e1, e2, ⟨⟨r, u, hv, hp, hb⟩, hF⟩, st⟩ | ⟨q, st₀, t, T', L, E, ce, h0, X', hL, e1, e2, ⟨u, hp, hb, hF⟩, hce, hcv, hcl, st⟩
  · cases hv
    obtain ⟨k1, k2, k3⟩ := vx_keep h0 e1 hS hA hf hL hF
    obtain ⟨t2, a1, b1⟩ := kk r u t T'.heap (locs ++ L) e1.symm (by rw [← e2]; exact X'.warmed.alike) hp hb k1 k2 k3 T' rfl X'
    exact ⟨t2, st t2 a1, b1⟩
  · obtain ⟨k1, k2, k3⟩ := vx_keep h0 e1 hS hAX hf hL hF
    obtain ⟨t2, a1, b1⟩ := kx E ce q u t T'.heap (locs ++ L) e1.symm (by rw [← e2]; exact X'.warmed.alike) hp hb k1 k2 k3 (by rw [e1]; exact hce) hcv hcl T' rfl X'
    exact ⟨t2, st.trans a1, b1⟩
theorem vx_calll {S SX : Type} {post : Int64 → S → Prop} {px : SX → Prop} {B : S → State → Prop} {BX : String → SX → State → Prop} {AX : Nat → Prop} (hr : vx_Run p l e R s m args below meth c H locs cells slots mc ms (F0 m pc ls st0) rest (va_Ql post B A1 a) (vx_X px BX AX) free) (hS : va_S A0 H0 H locs) (hA : ∀ q, q < H.size → A1 q → A0 q) (hf : ∀ q, free q → A0 q) (hAX : ∀ q, q < H.size → AX q → A0 q)
    (kx : ∀ (E : String) (ce : Cell) (q9 : Addr) (u : SX) (t : State) (H1 : Heap) (locs1 : List Loc), t.heap = H1 → s.vm.Alike t.vm → px u → BX E u t → H.size ≤ H1.size → (∀ q : Nat, q < H.size → ¬ AX q → H1[q]? = H[q]?) → va_S A0 H0 H1 locs1 → H1[q9]? = some ce → ce.vm = .none → s.vm.findClass E = some ce.cls → vx_W p l e R s m args below meth c H1 locs1 (cells + mc) (slots + ms) Q (F0 m pc ls rest) q9)
    (kk : ∀ (r : Int64) (u : S) (t : State) (H1 : Heap) (locs1 : List Loc), t.heap = H1 → s.vm.Alike t.vm → post r u → B u t → H.size ≤ H1.size → (∀ q : Nat, q < H.size → ¬ A1 q → H1[q]? = H[q]?) → va_S A0 H0 H1 locs1 → W p l e R s m args below meth c H1 locs1 (cells + mc) (slots + ms) Q (F0 m (pc + 3) ls (.long r :: rest))) : W p l e R s m args below meth c H locs cells slots Q (F0 m pc ls st0) := by
  intro T hT X
  rcases hr T hT X with ⟨v, st₀, t, T', L, h0, X', hL, e1, e2, ⟨⟨r, u, hv, hp, hb⟩, hF⟩, st⟩ | ⟨q, st₀, t, T', L, E, ce, h0, X', hL, e1, e2, ⟨u, hp, hb, hF⟩, hce, hcv, hcl, st⟩
  · cases hv
    obtain ⟨k1, k2, k3⟩ := vx_keep h0 e1 hS hA hf hL hF
    obtain ⟨t2, a1, b1⟩ := kk r u t T'.heap (locs ++ L) e1.symm (by rw [← e2]; exact X'.warmed.alike) hp hb k1 k2 k3 T' rfl X'
    exact ⟨t2, st t2 a1, b1⟩
  · obtain ⟨k1, k2, k3⟩ := vx_keep h0 e1 hS hAX hf hL hF
    obtain ⟨t2, a1, b1⟩ := kx E ce q u t T'.heap (locs ++ L) e1.symm (by rw [← e2]; exact X'.warmed.alike) hp hb k1 k2 k3 (by rw [e1]; exact hce) hcv hcl T' rfl X'
    exact ⟨t2, st.trans a1, b1⟩
theorem vx_callf {S SX : Type} {post : UInt32 → S → Prop} {px : SX → Prop} {B : S → State → Prop} {BX : String → SX → State → Prop} {AX : Nat → Prop} (hr : vx_Run p l e R s m args below meth c H locs cells slots mc ms (F0 m pc ls st0) rest (va_Qf post B A1 a) (vx_X px BX AX) free) (hS : va_S A0 H0 H locs) (hA : ∀ q, q < H.size → A1 q → A0 q) (hf : ∀ q, free q → A0 q) (hAX : ∀ q, q < H.size → AX q → A0 q)
    (kx : ∀ (E : String) (ce : Cell) (q9 : Addr) (u : SX) (t : State) (H1 : Heap) (locs1 : List Loc), t.heap = H1 → s.vm.Alike t.vm → px u → BX E u t → H.size ≤ H1.size → (∀ q : Nat, q < H.size → ¬ AX q → H1[q]? = H[q]?) → va_S A0 H0 H1 locs1 → H1[q9]? = some ce → ce.vm = .none → s.vm.findClass E = some ce.cls → vx_W p l e R s m args below meth c H1 locs1 (cells + mc) (slots + ms) Q (F0 m pc ls rest) q9)
    (kk : ∀ (r : UInt32) (u : S) (t : State) (H1 : Heap) (locs1 : List Loc), t.heap = H1 → s.vm.Alike t.vm → post r u → B u t → H.size ≤ H1.size → (∀ q : Nat, q < H.size → ¬ A1 q → H1[q]? = H[q]?) → va_S A0 H0 H1 locs1 → W p l e R s m args below meth c H1 locs1 (cells + mc) (slots + ms) Q (F0 m (pc + 3) ls (.float r :: rest))) : W p l e R s m args below meth c H locs cells slots Q (F0 m pc ls st0) := by
  intro T hT X
  rcases hr T hT X with ⟨v, st₀, t, T', L, h0, X', hL, e1, e2, ⟨⟨r, u, hv, hp, hb⟩, hF⟩, st⟩ | ⟨q, st₀, t, T', L, E, ce, h0, X', hL, e1, e2, ⟨u, hp, hb, hF⟩, hce, hcv, hcl, st⟩
  · cases hv
    obtain ⟨k1, k2, k3⟩ := vx_keep h0 e1 hS hA hf hL hF
    obtain ⟨t2, a1, b1⟩ := kk r u t T'.heap (locs ++ L) e1.symm (by rw [← e2]; exact X'.warmed.alike) hp hb k1 k2 k3 T' rfl X'
    exact ⟨t2, st t2 a1, b1⟩
  · obtain ⟨k1, k2, k3⟩ := vx_keep h0 e1 hS hAX hf hL hF
    obtain ⟨t2, a1, b1⟩ := kx E ce q u t T'.heap (locs ++ L) e1.symm (by rw [← e2]; exact X'.warmed.alike) hp hb k1 k2 k3 (by rw [e1]; exact hce) hcv hcl T' rfl X'
    exact ⟨t2, st.trans a1, b1⟩
theorem vx_calld {S SX : Type} {post : UInt64 → S → Prop} {px : SX → Prop} {B : S → State → Prop} {BX : String → SX → State → Prop} {AX : Nat → Prop} (hr : vx_Run p l e R s m args below meth c H locs cells slots mc ms (F0 m pc ls st0) rest (va_Qd post B A1 a) (vx_X px BX AX) free) (hS : va_S A0 H0 H locs) (hA : ∀ q, q < H.size → A1 q → A0 q) (hf : ∀ q, free q → A0 q) (hAX : ∀ q, q < H.size → AX q → A0 q)
    (kx : ∀ (E : String) (ce : Cell) (q9 : Addr) (u : SX) (t : State) (H1 : Heap) (locs1 : List Loc), t.heap = H1 → s.vm.Alike t.vm → px u → BX E u t → H.size ≤ H1.size → (∀ q : Nat, q < H.size → ¬ AX q → H1[q]? = H[q]?) → va_S A0 H0 H1 locs1 → H1[q9]? = some ce → ce.vm = .none → s.vm.findClass E = some ce.cls → vx_W p l e R s m args below meth c H1 locs1 (cells + mc) (slots + ms) Q (F0 m pc ls rest) q9)
    (kk : ∀ (r : UInt64) (u : S) (t : State) (H1 : Heap) (locs1 : List Loc), t.heap = H1 → s.vm.Alike t.vm → post r u → B u t → H.size ≤ H1.size → (∀ q : Nat, q < H.size → ¬ A1 q → H1[q]? = H[q]?) → va_S A0 H0 H1 locs1 → W p l e R s m args below meth c H1 locs1 (cells + mc) (slots + ms) Q (F0 m (pc + 3) ls (.double r :: rest))) : W p l e R s m args below meth c H locs cells slots Q (F0 m pc ls st0) := by
  intro T hT X
  rcases hr T hT X with ⟨v, st₀, t, T', L, h0, X', hL, e1, e2, ⟨⟨r, u, hv, hp, hb⟩, hF⟩, st⟩ | ⟨q, st₀, t, T', L, E, ce, h0, X', hL, e1, e2, ⟨u, hp, hb, hF⟩, hce, hcv, hcl, st⟩
  · cases hv
    obtain ⟨k1, k2, k3⟩ := vx_keep h0 e1 hS hA hf hL hF
    obtain ⟨t2, a1, b1⟩ := kk r u t T'.heap (locs ++ L) e1.symm (by rw [← e2]; exact X'.warmed.alike) hp hb k1 k2 k3 T' rfl X'
    exact ⟨t2, st t2 a1, b1⟩
  · obtain ⟨k1, k2, k3⟩ := vx_keep h0 e1 hS hAX hf hL hF
    obtain ⟨t2, a1, b1⟩ := kx E ce q u t T'.heap (locs ++ L) e1.symm (by rw [← e2]; exact X'.warmed.alike) hp hb k1 k2 k3 (by rw [e1]; exact hce) hcv hcl T' rfl X'
    exact ⟨t2, st.trans a1, b1⟩
theorem vx_callv {S SX : Type} {post : S → Prop} {px : SX → Prop} {B : S → State → Prop} {BX : String → SX → State → Prop} {AX : Nat → Prop} (hr : vx_Run p l e R s m args below meth c H locs cells slots mc ms (F0 m pc ls st0) rest (va_Qv post B A1 a) (vx_X px BX AX) free) (hS : va_S A0 H0 H locs) (hA : ∀ q, q < H.size → A1 q → A0 q) (hf : ∀ q, free q → A0 q) (hAX : ∀ q, q < H.size → AX q → A0 q)
    (kx : ∀ (E : String) (ce : Cell) (q9 : Addr) (u : SX) (t : State) (H1 : Heap) (locs1 : List Loc), t.heap = H1 → s.vm.Alike t.vm → px u → BX E u t → H.size ≤ H1.size → (∀ q : Nat, q < H.size → ¬ AX q → H1[q]? = H[q]?) → va_S A0 H0 H1 locs1 → H1[q9]? = some ce → ce.vm = .none → s.vm.findClass E = some ce.cls → vx_W p l e R s m args below meth c H1 locs1 (cells + mc) (slots + ms) Q (F0 m pc ls rest) q9)
    (kk : ∀ (u : S) (t : State) (H1 : Heap) (locs1 : List Loc), t.heap = H1 → s.vm.Alike t.vm → post u → B u t → H.size ≤ H1.size → (∀ q : Nat, q < H.size → ¬ A1 q → H1[q]? = H[q]?) → va_S A0 H0 H1 locs1 → W p l e R s m args below meth c H1 locs1 (cells + mc) (slots + ms) Q (F0 m (pc + 3) ls (rest))) : W p l e R s m args below meth c H locs cells slots Q (F0 m pc ls st0) := by
  intro T hT X
  rcases hr T hT X with ⟨v, st₀, t, T', L, h0, X', hL, e1, e2, ⟨⟨u, hv, hp, hb⟩, hF⟩, st⟩ | ⟨q, st₀, t, T', L, E, ce, h0, X', hL, e1, e2, ⟨u, hp, hb, hF⟩, hce, hcv, hcl, st⟩
  · cases hv
    obtain ⟨k1, k2, k3⟩ := vx_keep h0 e1 hS hA hf hL hF
    obtain ⟨t2, a1, b1⟩ := kk u t T'.heap (locs ++ L) e1.symm (by rw [← e2]; exact X'.warmed.alike) hp hb k1 k2 k3 T' rfl X'
    exact ⟨t2, st t2 a1, b1⟩
  · obtain ⟨k1, k2, k3⟩ := vx_keep h0 e1 hS hAX hf hL hF
    obtain ⟨t2, a1, b1⟩ := kx E ce q u t T'.heap (locs ++ L) e1.symm (by rw [← e2]; exact X'.warmed.alike) hp hb k1 k2 k3 (by rw [e1]; exact hce) hcv hcl T' rfl X'
    exact ⟨t2, st.trans a1, b1⟩
/-- caught by the row x of this method's table; the rows ahead don't take it -/
theorem vx_catch {own name : String} {E : String} {ce : Cell} {q : Addr} (hown : s.vm.findClass own = some m.cls) (pre : List ExceptionTableEntry) (x : ExceptionTableEntry) (suf : List ExceptionTableEntry) (hsplit : c.exceptionTable.toList = pre ++ x :: suf)
    (hpass : ∀ z ∈ pre, covers z pc = false ∨ (z.catchType ≠ 0 ∧ ∃ nm : String, (Cond.classLink own z.catchType nm).before args s = true ∧ va_Nc E nm s)) (hx : covers x pc = true) (h0 : x.catchType ≠ 0)
    (hlink : (Cond.classLink own x.catchType name).before args s = true) (hcast : (Cond.castable E name).before args s = true) (hcell : H[q]? = some ce) (hv : ce.vm = .none) (hcl : s.vm.findClass E = some ce.cls)
    (kk : W p l e R s m args below meth c H locs cells slots Q (F0 m x.handlerPc ls [.ref q])) : vx_W p l e R s m args below meth c H locs cells slots Q (F0 m pc ls rest) q := by
  intro T hT X
  have hpl : e.platform.magicAccessors = ({} : Platform).magicAccessors := by rw [X.admits.platform]
  obtain ⟨c3, c4, hc3, hc4, hasg⟩ := Cond.castable_spec hcast
  cases Option.some.inj (hc3.symm.trans hcl)
  obtain ⟨c5, hc5, hcl5⟩ := Cond.classLink_spec hown hlink e.platform hpl
  cases Option.some.inj (hc4.symm.trans hc5)
  obtain ⟨vm', X', st⟩ := X.thenCaughtThrough q (g := F0 m pc ls rest) rfl (Steps.refl _) (by rw [hT]; exact hcell) (by rw [hv]; rfl) (by obtain ⟨k9, h9, -⟩ := Vm.findClass_spec hcl; exact ⟨k9, h9⟩) pre x suf hsplit
    (fun z hz => by
      rcases hpass z hz with h | ⟨hz0, nm, hl1, hn1⟩
      · exact Or.inl h
      · obtain ⟨c6, hc6, hcl6⟩ := Cond.classLink_spec hown hl1 e.platform hpl
        obtain ⟨a8, b8, h1, h2, h3⟩ := hn1
        cases Option.some.inj (h1.symm.trans hcl)
        cases Option.some.inj (h2.symm.trans hc6)
        exact Or.inr ⟨hz0, _, hcl6, h3⟩) hx (Or.inr ⟨h0, c4, hcl5, hasg⟩)
  obtain ⟨t, a1, b1⟩ := kk (T.setVm vm') hT X'
  exact ⟨t, st.trans a1, b1⟩
end Rows
section Ends
variable {p : Program} {l : Launch} {e : Env} {R : Room} {s : State} {m : MethodId} {args : Array Value} {below : List Frame} {meth : Method} {c : Code} {H : Heap} {locs : List Loc} {cells slots : Nat} {Q : State → Prop}
variable {mc ms : Nat} {free : Addr → Prop} {A0 A1 : Nat → Prop} {H0 : Heap} {a : Array Value} {ls : Array Slot} {st0 rest : List Value}
variable {Qc : Array Value → State → Outcome → State → Prop} {XC : String → State → State → Prop}
/-- what a body that may throw owes at its end -/
def vx_MQ (below : List Frame) (Qc : Array Value → State → Outcome → State → Prop) (XC : String → State → State → Prop) (a : Array Value) (s : State) (mc ms : Nat) (free : Addr → Prop) : State → Prop := fun t =>
  ∃ o, t.status = .running ∧ Ended t below o ∧ vx_Q Qc XC mc ms free a s o t
theorem vx_ret {g : JFrame} {mc ms : Nat} (k : W p l e R s m args below meth c H locs cells slots (MQ below Qc args s mc ms free) g) : W p l e R s m args below meth c H locs cells slots (vx_MQ below Qc XC args s mc ms free) g := by
  intro T hT X
  obtain ⟨t, a1, o, b1, b2, b3, b4⟩ := k T hT X
  exact ⟨t, a1, o, b1, b2, Or.inl ⟨b3, b4⟩⟩
/-- not caught here: it goes on to the caller -/
theorem vx_widen {g : JFrame} {q : Addr} {k n : Nat} (h1 : cells ≤ k) (h2 : slots ≤ n) (kk : vx_W p l e R s m args below meth c H locs k n Q g q) : vx_W p l e R s m args below meth c H locs cells slots Q g q := fun T hT X => kk T hT (stand_widen X h1 h2)
theorem vx_out {pc : Nat} {E : String} {ce : Cell} {q : Addr} {mc ms : Nat} (hout : ∀ x ∈ c.exceptionTable.toList, covers x pc = false) (hlocks : meth.locks = false) (hcell : H[q]? = some ce) (hv : ce.vm = .none) (hcl : s.vm.findClass E = some ce.cls)
    (hx : ∀ t : State, t.heap = H → s.vm.Alike t.vm → XC E s t) (hf : ∀ z ∈ locs, free z.base) (hc : cells ≤ mc) (hs : slots ≤ ms) :
    vx_W p l e R s m args below meth c H locs cells slots (vx_MQ below Qc XC args s mc ms free) (F0 m pc ls rest) q := by
  intro T hT X
  obtain ⟨st1, hrun, hend, hW, hsm⟩ := X.leaveThrown q (g := F0 m pc ls rest) rfl rfl rfl hout hlocks
  have hcell9 : (T.setFrames (.throwing q :: below)).heap[q]? = some ce := by
    show T.heap[q]? = some ce
    rw [hT]; exact hcell
  exact ⟨_, st1, .threw q, hrun, hend, Or.inr ⟨q, rfl, E, ce, locs, hx _ hT hW.alike, hcell9, hv, hcl, hW, hsm.mono hc hs, hf⟩⟩
theorem vx_frame {U : State} {k n : Nat} (h : s.sameButNew ({ U with vm := s.vm } : State) locs k n) : s.heap.size ≤ U.heap.size ∧ ∀ q : Nat, q < s.heap.size → (∀ z ∈ locs, z.base ≠ q) → U.heap[q]? = s.heap[q]? := by
  obtain ⟨-, h2, -, -, -, h6⟩ := h
  refine ⟨h2, fun q hq hz => ?_⟩
  obtain ⟨c9, e1, e2, e3, e4⟩ := h6 q _ (Array.getElem?_eq_getElem hq)
  have hs : c9.slots = (s.heap[q]).slots := Array.ext_getElem? fun i => e4 i fun hm => hz _ hm rfl
  have h9 : c9 = s.heap[q] := by
    rw [hs] at e2
    exact e2
  have e5 : U.heap[q]? = some c9 := e1
  rw [e5, h9, Array.getElem?_eq_getElem hq]
/-- the words of a throw but the four that speak of the heap -/
def vx_no (w : Cond) : Bool := decide (w ≠ .isRef (.static Bundle.tN "UNASSIGNED_STACK" Bundle.steD)) && decide (w ≠ .isRef (.static Bundle.tN "SUPPRESSED_SENTINEL" Bundle.listD)) && decide (w ≠ .laysStatic Bundle.tN "UNASSIGNED_STACK" Bundle.steD) && decide (w ≠ .laysStatic Bundle.tN "SUPPRESSED_SENTINEL" Bundle.listD)
def vx_at0 (own : String) (ic : Nat) (X : String) (names : List String) : List Cond := (Bundle.ownAtoms0 own ic X names).filter vx_no
def vx_atS (own : String) (ic : Nat) (X : String) (names : List String) : List Cond := (Bundle.ownAtoms own ic X names).filter vx_no
/-- a word that the tables alone decide, or a good one -/
def vx_ot (w : Cond) : Bool := w.onTables || goodWord w
theorem vx_ot_at {args a' : Array Value} {s U : State} {w : Cond} (hW : s.WarmedH U.vm) (hvm : s.vm = U.vm) (hg : vx_ot w = true) (h : w.before args s = true) : w.before a' U = true := by
  simp only [vx_ot, Bool.or_eq_true] at hg
  rcases hg with hg | hg
  · exact va_tabs hg hvm h
  · exact word_at hW (good_of_word hg) h
/-- a list's words: the good ones out of the method's own list, the others by premises of their own -/
theorem vx_hat {args : Array Value} {s : State} {L B : List Cond} (h1 : ∀ w ∈ L.filter goodWord, w.before args s = true) (h2 : ∀ w ∈ L.filter (fun w => !goodWord w), w ∈ B) (h3 : ∀ w ∈ B, w.before args s = true) : ∀ w ∈ L, w.before args s = true := by
  intro w hw
  by_cases g : goodWord w = true
  · exact h1 w (List.mem_filter.mpr ⟨hw, g⟩)
  · refine h3 w (h2 w (List.mem_filter.mpr ⟨hw, ?_⟩))
    show (!goodWord w) = true
    cases hgw : goodWord w
    · rfl
    · exact absurd hgw g
theorem vx_c {args : Array Value} {s : State} {w : Cond} {B : List Cond} (h : w.before args s = true) (t : ∀ w ∈ B, w.before args s = true) : ∀ w' ∈ w :: B, w'.before args s = true := fun w' h' => (List.mem_cons.mp h').elim (fun e => by rw [e]; exact h) (t w')
theorem vx_n {args : Array Value} {s : State} : ∀ w ∈ ([] : List Cond), w.before args s = true := fun _ h => nomatch h
theorem vx_own {args : Array Value} {s : State} {L : List Cond} (h1 : ∀ w ∈ L.filter vx_no, w.before args s = true)
    (hU : (Cond.isRef (.static Bundle.tN "UNASSIGNED_STACK" Bundle.steD)).before args s = true) (hN : (Cond.isRef (.static Bundle.tN "SUPPRESSED_SENTINEL" Bundle.listD)).before args s = true)
    (lU : (Cond.laysStatic Bundle.tN "UNASSIGNED_STACK" Bundle.steD).before args s = true) (lN : (Cond.laysStatic Bundle.tN "SUPPRESSED_SENTINEL" Bundle.listD).before args s = true) : ∀ w ∈ L, w.before args s = true := by
  intro w hw
  by_cases e1 : w = .isRef (.static Bundle.tN "UNASSIGNED_STACK" Bundle.steD)
  · rw [e1]; exact hU
  · by_cases e2 : w = .isRef (.static Bundle.tN "SUPPRESSED_SENTINEL" Bundle.listD)
    · rw [e2]; exact hN
    · by_cases e3 : w = .laysStatic Bundle.tN "UNASSIGNED_STACK" Bundle.steD
      · rw [e3]; exact lU
      · by_cases e4 : w = .laysStatic Bundle.tN "SUPPRESSED_SENTINEL" Bundle.listD
        · rw [e4]; exact lN
        · exact h1 w (List.mem_filter.mpr ⟨hw, by unfold vx_no; rw [decide_eq_true e1, decide_eq_true e2, decide_eq_true e3, decide_eq_true e4]; rfl⟩)
/-- where a static field lies, its class's statics cell in H -/
def vx_L (C n d : String) (A : Nat → Prop) (U : State) (H : Heap) : Prop := ∃ (c : ClassId) (k : Class) (i : Nat) (f : Field) (a : Nat) (cell : Cell), U.vm.findClass C = some c ∧ U.fieldFound? C n d = some (c, k, i, f) ∧ f.isStatic = true ∧ k.statics = some a ∧ H[a]? = some cell ∧ cell.vm.isStatics = true ∧ cell.cls = c ∧ f.slot < cell.slots.size ∧ k.staticTypes[f.slot]? = some f.type ∧ ¬ A a
theorem vx_L.moved {C n d : String} {A : Nat → Prop} {u U : State} {H : Heap} (hvm : u.vm.Alike U.vm) (h : vx_L C n d A u H) : vx_L C n d A U H := by
  obtain ⟨c, k, i, f, a, cell, h1, h2, h3, h4, h5, h6, h7, h8, h9, h10⟩ := h
  obtain ⟨k', hi', he⟩ := State.fieldFound?_setVm hvm h2
  exact ⟨c, k', i, f, a, cell, by rw [hvm.findClass]; exact h1, hi', h3, by rw [he]; exact h4, h5, h6, h7, h8, by rw [he]; exact h9, h10⟩
theorem vx_L.kept {C n d : String} {A : Nat → Prop} {U : State} {H H1 : Heap} (h : vx_L C n d A U H) (hq : ∀ a : Nat, a < H.size → ¬ A a → H1[a]? = H[a]?) : vx_L C n d A U H1 := by
  obtain ⟨c, k, i, f, a, cell, h1, h2, h3, h4, h5, h6, h7, h8, h9, h10⟩ := h
  exact ⟨c, k, i, f, a, cell, h1, h2, h3, h4, by rw [hq a (Array.getElem?_eq_some_iff.mp h5).1 h10]; exact h5, h6, h7, h8, h9, h10⟩
theorem vx_L.narrow {C n d : String} {A B : Nat → Prop} {U : State} {H : Heap} (h : vx_L C n d A U H) (hAB : ∀ q, B q → A q) : vx_L C n d B U H := by
  obtain ⟨c, k, i, f, a, cell, h1, h2, h3, h4, h5, h6, h7, h8, h9, h10⟩ := h
  exact ⟨c, k, i, f, a, cell, h1, h2, h3, h4, h5, h6, h7, h8, h9, fun z => h10 (hAB _ z)⟩
theorem vx_L.word {C n d : String} {A : Nat → Prop} {s : State} {args : Array Value} (h : vx_L C n d A s s.heap) : (Cond.laysStatic C n d).before args s = true := by
  obtain ⟨c, k, i, f, a, cell, h1, h2, h3, h4, h5, h6, h7, h8, h9, -⟩ := h
  show (Cond.laysStatic C n d).holds args s none s [] = true
  exact Cond.laysStatic_of h1 h2 h3 h4 h5 h6 h7 h8 h9
/-- .. and what it holds: null or some reference -/
def vx_Zq (C n d : String) (A : Nat → Prop) (U : State) (H : Heap) : Prop := va_Zq C n d A U H ∧ vx_L C n d A U H
theorem vx_Zq.moved {C n d : String} {A : Nat → Prop} {u U : State} {H : Heap} (hvm : u.vm.Alike U.vm) (h : vx_Zq C n d A u H) : vx_Zq C n d A U H := ⟨va_Zq.moved hvm h.1, vx_L.moved hvm h.2⟩
theorem vx_Zq.kept {C n d : String} {A : Nat → Prop} {U : State} {H H1 : Heap} (h : vx_Zq C n d A U H) (hq : ∀ a : Nat, a < H.size → ¬ A a → H1[a]? = H[a]?) : vx_Zq C n d A U H1 := ⟨va_Zq.kept h.1 hq, vx_L.kept h.2 hq⟩
theorem vx_Zq.narrow {C n d : String} {A B : Nat → Prop} {U : State} {H : Heap} (h : vx_Zq C n d A U H) (hAB : ∀ q, B q → A q) : vx_Zq C n d B U H := ⟨va_Zq.narrow h.1 hAB, vx_L.narrow h.2 hAB⟩
theorem vx_Zqof {args : Array Value} {s : State} {C n d : String} {A : Nat → Prop} (hl : (Cond.laysStatic C n d).before args s = true) (hini : (Cond.initialized C).before args s = true) (h : (Cond.isRef (.static C n d)).before args s = true) (hA : ∀ a : Nat, a < s.heap.size → ¬ A a) : vx_Zq C n d A s s.heap := by
  refine ⟨va_Zqof hl hini h hA, ?_⟩
  obtain ⟨c, k, i, f, a, cell, h1, h2, h3, h4, h5, h6, h7, h8, h9⟩ := Cond.laysStatic_spec hl
  exact ⟨c, k, i, f, a, cell, h1, h2, h3, h4, h5, h6, h7, h8, h9, hA a (Array.getElem?_eq_some_iff.mp h5).1⟩
theorem vx_isRef {C n d : String} {v : Value} {A : Nat → Prop} {s : State} {args : Array Value} (h : va_Z C n d v A s s.heap) (hv : v.isRef = true) : (Cond.isRef (.static C n d)).before args s = true := by
  obtain ⟨cf, kf, fi, f, a, cell, h1, h2, h3, h4, h5, h6, h7, -⟩ := h
  have he : (Term.static C n d).eval args s none [] s = some v := by
    simp [Term.eval, State.fieldNamed?, h1, h2, h4, h5, h6, h7]
  simp only [Cond.before, Cond.holds, Cond.value, he]
  cases v <;> simp_all [Value.isRef]
theorem vx_isRefq {C n d : String} {A : Nat → Prop} {s : State} {args : Array Value} (h : va_Zq C n d A s s.heap) : (Cond.isRef (.static C n d)).before args s = true := by
  rcases h with h | ⟨t, h⟩
  · exact vx_isRef h rfl
  · exact vx_isRef h rfl
/-- the same frame, seen from here: as if the method were called anew in this heap -/
theorem vx_rebase {T : State} (X : Stand p l e R s m args below meth c T locs cells slots) {R' : Room} (hf : R'.frames ≤ R.frames) (hl : R'.locals ≤ R.locals) (hc : cells + R'.cells ≤ R.cells) (hs : slots + R'.slots ≤ R.slots) :
    Stand p l e R' ((T.setVm s.vm).setFrames (.invoking m args :: below)) m args below meth c T [] 0 0 := by
  have htop : (T.setVm s.vm).topJava?.isSome := X.here.top
  have hF : ((T.setVm s.vm).setFrames (.invoking m args :: below)).frames = .invoking m args :: below := State.frames_setFrames _ (State.cur_lt_of_top htop)
  obtain ⟨g₀, hg0⟩ := Option.isSome_iff_exists.mp htop
  obtain ⟨r, hr⟩ := State.topJava?_eq_some.mp hg0
  have hl9 : e.platform.stackLimits (T.setVm s.vm).me = e.platform.stackLimits s.me := X.limits
  have hb9 : (T.setVm s.vm).me.stackBytes = s.me.stackBytes := X.bytes
  refine ⟨X.admits, X.cas, X.clock, hF, ?_, X.hears, X.method, X.code, X.here, X.tail, X.warmed, ?_, ?_, ?_⟩
  · have h := X.room
    have hU : ((T.setVm s.vm).setFrames (.invoking m args :: below)).localsInUse = s.localsInUse := by
      rw [State.localsInUse_invoking hF (meth := meth) (c := c) X.method X.code, State.localsInUse_invoking X.frames X.method X.code]
    simp only [State.hasRoom, Bool.and_eq_true, decide_eq_true_eq] at h ⊢
    obtain ⟨⟨⟨⟨h1, h2, h3, h4, h5, h6⟩, h7⟩, h8⟩, h9⟩ := h
    rw [X.frames, List.length_cons] at h2 h3
    have q1 := X.heapSize
    have q2 := X.used
    simp only [hF, hU, List.length_cons, State.stackLimits_setFrames, State.stackBytes_setFrames, hl9, hb9]
    refine ⟨⟨⟨⟨by omega, by omega, by omega, by omega, by omega, h6⟩, ?_⟩, ?_⟩, X.book⟩
    · show T.heap.size + R'.cells ≤ e.platform.maxCells
      omega
    · show T.slotsUsed + R'.slots ≤ e.platform.maxSlots
      omega
  · rw [State.stackLimits_setFrames]; rfl
  · rw [State.stackBytes_setFrames]; rfl
  · refine ⟨?_, Nat.le_refl _, Nat.le_refl _, ?_, ?_, fun a c9 h9 => ⟨c9, h9, rfl, rfl, fun _ _ => rfl⟩⟩
    · obtain ⟨t, ht, -⟩ := State.frames_cons hr
      show T.setVm s.vm = { ((T.setVm s.vm).setFrames (.invoking m args :: below)).setFrames (T.setVm s.vm).frames with heap := T.heap, slotsUsed := T.slotsUsed }
      rw [State.setFrames_setFrames, State.setFrames_self ht]
      rfl
    · show T.slotsUsed = T.slotsUsed + ((T.heap.toList.drop T.heap.size).map (·.slots.size)).sum
      rw [List.drop_eq_nil_of_le (Nat.le_of_eq Array.length_toList)]
      rfl
    · show ((T.heap.toList.drop T.heap.size).map (·.slots.size)).sum ≤ 0
      rw [List.drop_eq_nil_of_le (Nat.le_of_eq Array.length_toList)]
      exact Nat.le_refl _
/-- 'throw new E()': new; dup; invokespecial; athrow -/
theorem vx_throw0 {cc : ByteArray} {pc : Nat} (hexec : p.tables.exec = Jvm.exec) (hb : c.code = cc) (hl : l.stackTraces = false) {own cls : String} {names : List String} {ik ic mc ms : Nat} {A : Nat → Prop}
    (hown : s.vm.findClass own = some m.cls) (hcls : Bundle.fit cls = true) (hnames : ∀ n ∈ names, Bundle.fit n = true)
    (hk : (Cond.classLink own ik cls).before args s = true) (hini : (Cond.initialized cls).before args s = true) (hat : ∀ w ∈ vx_at0 own ic cls names, w.before args s = true)
    (hgood : ∀ w ∈ Cond.classLink own ik cls :: Cond.initialized cls :: vx_at0 own ic cls names, vx_ot w = true)
    (hU : vx_Zq Bundle.tN "UNASSIGNED_STACK" Bundle.steD A s s.heap) (hN : vx_Zq Bundle.tN "SUPPRESSED_SENTINEL" Bundle.listD A s s.heap) (hS : va_S A s.heap H locs) (hsize : ls.size = c.maxLocals)
    (d0 : decode cc pc = .ok (.new ik, 3)) (d3 : decode cc (pc + 3) = .ok (.dup, 1)) (d4 : decode cc (pc + 4) = .ok (.invokespecial ic, 3)) (d7 : decode cc (pc + 7) = .ok (.athrow, 1))
    (hout : ∀ x ∈ c.exceptionTable.toList, covers x (pc + 7) = false)
    (hRframes : names.length + 3 < R.frames) (hRlocals : (rest.map fun v => v.category).sum + (13 * (names.length + 1) + 42) ≤ R.locals) (hRcells : cells + 1 ≤ R.cells) (hRslots : slots + 6 ≤ R.slots) (hlocks : meth.locks = false)
    (hx : ∀ t : State, s.vm.Alike t.vm → H.size ≤ t.heap.size → (∀ q : Nat, q < H.size → t.heap[q]? = H[q]?) → XC cls s t)
    (hf : ∀ z ∈ locs, free z.base) (hc : cells + 1 ≤ mc) (hs : slots + 6 ≤ ms) :
    W p l e R s m args below meth c H locs cells slots (vx_MQ below Qc XC args s mc ms free) (F0 m pc ls rest) := by
  intro T hT X
  have htr : e.platform.stackTraces = false := (show e.platform.stackTraces = l.stackTraces by rw [X.admits.platform]).trans hl
  have Y := vx_rebase X (R' := { frames := R.frames, locals := R.locals, cells := 1, slots := 6 }) (Nat.le_refl _) (Nat.le_refl _) hRcells hRslots
  obtain ⟨s', hA⟩ : ∃ z, z = (T.setVm s.vm).setFrames (.invoking m args :: below) := ⟨_, rfl⟩
  rw [← hA] at Y
  have hvm : s'.vm = s.vm := by rw [hA]; rfl
  have hhp : s'.heap = H := by rw [hA]; exact hT
  have hW0 : s.WarmedH s'.vm := by rw [hvm]; exact State.WarmedH.refl s
  have hat' : ∀ w ∈ vx_at0 own ic cls names, w.before args s' = true := fun w hw => vx_ot_at hW0 hvm.symm (hgood w (List.mem_cons_of_mem _ (List.mem_cons_of_mem _ hw))) (hat w hw)
  have hk' : (Cond.classLink own ik cls).before args s' = true := vx_ot_at hW0 hvm.symm (hgood _ List.mem_cons_self) hk
  have hini' : (Cond.initialized cls).before args s' = true := vx_ot_at hW0 hvm.symm (hgood _ (List.mem_cons_of_mem _ List.mem_cons_self)) hini
  have hU' : vx_Zq Bundle.tN "UNASSIGNED_STACK" Bundle.steD A s' s'.heap := by rw [hhp]; exact vx_Zq.moved hW0.alike (hU.kept hS.2.1)
  have hN' : vx_Zq Bundle.tN "SUPPRESSED_SENTINEL" Bundle.listD A s' s'.heap := by rw [hhp]; exact vx_Zq.moved hW0.alike (hN.kept hS.2.1)
  have h : ∀ w ∈ Bundle.ownAtoms0 own ic cls names, w.before args s' = true := vx_own hat' (vx_isRefq hU'.1) (vx_isRefq hN'.1) hU'.2.word hN'.2.word
  have hown' : s'.vm.findClass own = some m.cls := by rw [hvm]; exact hown
  have hins : (Cond.instantiable cls 6).before args s' = true := h _ (by simp [Bundle.ownAtoms0])
  obtain ⟨vm₁, cX, kX, hfX, hkX, -, -, X₁, st1⟩ := Y.newCold hexec (own := own) (C := cls) (index := ik) (n := 6) hown' hk' hins hini'
    (g := F0 m pc ls rest) rfl (by rw [hb]; exact d0) (Nat.le_refl _) (Nat.le_refl _)
  generalize hT1 : (T.setVm vm₁).pushCell { cls := cX, slots := kX.instanceTypes.map defaultValue, vm := .none } = T1 at X₁ st1
  have hcat : (Value.ref T.heap.size).category = 1 := rfl
  have hcellA : T1.heap[T.heap.size]? = some (freshCell cX kX) := by rw [← hT1]; exact State.heap_pushCell_size _ _
  have d3' : decode c.code (pc + 3) = .ok (.dup, 1) := by rw [hb]; exact d3
  obtain ⟨U, hsteps, hrun, hend, hW, hsame, ce, hce, hO⟩ := X₁.ctorThrow0 hexec htr (own := own) (cls := cls) (names := names) (ic := ic) hown' hcls hnames h (fun x hx => nomatch hx) hfX hkX hcellA (by rw [hhp, hT]; exact Nat.le_refl _)
    (g := { method := m, pc := pc + 4, locals := ls, stack := .ref T.heap.size :: .ref T.heap.size :: rest, locked := none }) rfl hsize rfl rfl (rest := rest) rfl
    (by rw [hb]; exact d4) (by rw [hb]; exact d7) hout hRframes (by simp only [List.map_cons, List.sum_cons, hcat]; omega) hlocks
  obtain ⟨f1, f2⟩ := vx_frame hsame
  rw [hhp] at f1 f2
  have hWs : s.WarmedH U.vm := State.WarmedH.trans hW0 hW
  have hcl : s.vm.findClass cls = some ce.cls := by
    have h9 := hO.cls
    rw [hvm] at h9
    exact h9
  have hall : s.sameButNew ({ U with vm := s.vm } : State) locs mc ms := by
    subst hA
    obtain ⟨e1, e2⟩ := hsame
    rw [State.setFrames_setFrames] at e1
    have h2 : (T.setVm s.vm).sameButNew ({ U with vm := s.vm } : State) [] (0 + 1) (0 + 6) := ⟨e1, e2⟩
    have h3 := X.same.trans h2
    rw [List.append_nil] at h3
    exact h3.mono hc hs
  refine ⟨U, ?_, .threw T.heap.size, hrun, hend, Or.inr ⟨T.heap.size, rfl, cls, ce, locs, hx U hWs.alike f1 (fun q hq => f2 q hq (fun z hz => nomatch hz)), hce, hO.vm, hcl, hWs, hall, hf⟩⟩
  refine st1 _ ?_
  show Steps p.tables e below (T1.setTop { method := m, pc := pc + 3, locals := ls, stack := .ref T.heap.size :: rest, locked := none }) _
  jvm_step X₁.here [X₁.here.top, hexec, d3', Value.category]
  exact hsteps
/-- 'throw new E("text")': new; dup; ldc; invokespecial; athrow -/
theorem vx_throwS {cc : ByteArray} {pc : Nat} (hexec : p.tables.exec = Jvm.exec) (hb : c.code = cc) (hl : l.stackTraces = false) {own cls text : String} {names : List String} {ik is ic mc ms sa : Nat} {A : Nat → Prop}
    (hown : s.vm.findClass own = some m.cls) (hcls : Bundle.fit cls = true) (hnames : ∀ n ∈ names, Bundle.fit n = true)
    (hk : (Cond.classLink own ik cls).before args s = true) (hini : (Cond.initialized cls).before args s = true) (hstr : vk_R own is text sa s) (hat : ∀ w ∈ vx_atS own ic cls names, w.before args s = true)
    (hgood : ∀ w ∈ Cond.classLink own ik cls :: Cond.initialized cls :: vx_atS own ic cls names, vx_ot w = true)
    (hU : vx_Zq Bundle.tN "UNASSIGNED_STACK" Bundle.steD A s s.heap) (hN : vx_Zq Bundle.tN "SUPPRESSED_SENTINEL" Bundle.listD A s s.heap) (hS : va_S A s.heap H locs) (hsize : ls.size = c.maxLocals)
    (d0 : decode cc pc = .ok (.new ik, 3)) (d3 : decode cc (pc + 3) = .ok (.dup, 1)) (d4 : decode cc (pc + 4) = .ok (.ldc is, 2)) (d6 : decode cc (pc + 6) = .ok (.invokespecial ic, 3)) (d9 : decode cc (pc + 9) = .ok (.athrow, 1))
    (hout : ∀ x ∈ c.exceptionTable.toList, covers x (pc + 9) = false)
    (hRframes : names.length + 3 < R.frames) (hRlocals : (rest.map fun v => v.category).sum + (13 * (names.length + 1) + 43) ≤ R.locals) (hRcells : cells + 1 ≤ R.cells) (hRslots : slots + 6 ≤ R.slots) (hlocks : meth.locks = false)
    (hx : ∀ t : State, s.vm.Alike t.vm → H.size ≤ t.heap.size → (∀ q : Nat, q < H.size → t.heap[q]? = H[q]?) → XC cls s t)
    (hf : ∀ z ∈ locs, free z.base) (hc : cells + 1 ≤ mc) (hs : slots + 6 ≤ ms) :
    W p l e R s m args below meth c H locs cells slots (vx_MQ below Qc XC args s mc ms free) (F0 m pc ls rest) := by
  intro T hT X
  have htr : e.platform.stackTraces = false := (show e.platform.stackTraces = l.stackTraces by rw [X.admits.platform]).trans hl
  have Y := vx_rebase X (R' := { frames := R.frames, locals := R.locals, cells := 1, slots := 6 }) (Nat.le_refl _) (Nat.le_refl _) hRcells hRslots
  obtain ⟨s', hA⟩ : ∃ z, z = (T.setVm s.vm).setFrames (.invoking m args :: below) := ⟨_, rfl⟩
  rw [← hA] at Y
  have hvm : s'.vm = s.vm := by rw [hA]; rfl
  have hhp : s'.heap = H := by rw [hA]; exact hT
  have hW0 : s.WarmedH s'.vm := by rw [hvm]; exact State.WarmedH.refl s
  have hat' : ∀ w ∈ vx_atS own ic cls names, w.before args s' = true := fun w hw => vx_ot_at hW0 hvm.symm (hgood w (List.mem_cons_of_mem _ (List.mem_cons_of_mem _ hw))) (hat w hw)
  have hk' : (Cond.classLink own ik cls).before args s' = true := vx_ot_at hW0 hvm.symm (hgood _ List.mem_cons_self) hk
  have hini' : (Cond.initialized cls).before args s' = true := vx_ot_at hW0 hvm.symm (hgood _ (List.mem_cons_of_mem _ List.mem_cons_self)) hini
  have hU' : vx_Zq Bundle.tN "UNASSIGNED_STACK" Bundle.steD A s' s'.heap := by rw [hhp]; exact vx_Zq.moved hW0.alike (hU.kept hS.2.1)
  have hN' : vx_Zq Bundle.tN "SUPPRESSED_SENTINEL" Bundle.listD A s' s'.heap := by rw [hhp]; exact vx_Zq.moved hW0.alike (hN.kept hS.2.1)
  have h : ∀ w ∈ Bundle.ownAtoms own ic cls names, w.before args s' = true := vx_own hat' (vx_isRefq hU'.1) (vx_isRefq hN'.1) hU'.2.word hN'.2.word
  have hown' : s'.vm.findClass own = some m.cls := by rw [hvm]; exact hown
  have hins : (Cond.instantiable cls 6).before args s' = true := h _ (by simp [Bundle.ownAtoms])
  obtain ⟨vm₁, cX, kX, hfX, hkX, -, -, X₁, st1⟩ := Y.newCold hexec (own := own) (C := cls) (index := ik) (n := 6) hown' hk' hins hini'
    (g := F0 m pc ls rest) rfl (by rw [hb]; exact d0) (Nat.le_refl _) (Nat.le_refl _)
  generalize hT1 : (T.setVm vm₁).pushCell { cls := cX, slots := kX.instanceTypes.map defaultValue, vm := .none } = T1 at X₁ st1
  have hcat : (Value.ref T.heap.size).category = 1 := rfl
  have hcellA : T1.heap[T.heap.size]? = some (freshCell cX kX) := by rw [← hT1]; exact State.heap_pushCell_size _ _
  have d3' : decode c.code (pc + 3) = .ok (.dup, 1) := by rw [hb]; exact d3
  have d4' : decode c.code (pc + 4) = .ok (.ldc is, 2) := by rw [hb]; exact d4
  have hstr' : vk_R own is text sa s' := vk_R.warm hW0 hstr
  obtain ⟨U, hsteps, hrun, hend, hW, hsame, ce, hce, hO⟩ := X₁.ctorThrowS hexec htr (own := own) (cls := cls) (names := names) (ic := ic) hown' hcls hnames h (fun x hx => nomatch hx) hfX hkX hcellA (by rw [hhp, hT]; exact Nat.le_refl _) (msg := .ref sa) rfl
    (g := { method := m, pc := pc + 6, locals := ls, stack := .ref sa :: .ref T.heap.size :: .ref T.heap.size :: rest, locked := none }) rfl hsize rfl rfl (rest := rest) rfl
    (by rw [hb]; exact d6) (by rw [hb]; exact d9) hout hRframes (by simp only [List.map_cons, List.sum_cons, hcat]; omega) hlocks
  obtain ⟨f1, f2⟩ := vx_frame hsame
  rw [hhp] at f1 f2
  have hWs : s.WarmedH U.vm := State.WarmedH.trans hW0 hW
  have hcl : s.vm.findClass cls = some ce.cls := by
    have h9 := hO.cls
    rw [hvm] at h9
    exact h9
  have hall : s.sameButNew ({ U with vm := s.vm } : State) locs mc ms := by
    subst hA
    obtain ⟨e1, e2⟩ := hsame
    rw [State.setFrames_setFrames] at e1
    have h2 : (T.setVm s.vm).sameButNew ({ U with vm := s.vm } : State) [] (0 + 1) (0 + 6) := ⟨e1, e2⟩
    have h3 := X.same.trans h2
    rw [List.append_nil] at h3
    exact h3.mono hc hs
  refine ⟨U, ?_, .threw T.heap.size, hrun, hend, Or.inr ⟨T.heap.size, rfl, cls, ce, locs, hx U hWs.alike f1 (fun q hq => f2 q hq (fun z hz => nomatch hz)), hce, hO.vm, hcl, hWs, hall, hf⟩⟩
  refine st1 _ ?_
  show Steps p.tables e below (T1.setTop { method := m, pc := pc + 3, locals := ls, stack := .ref T.heap.size :: rest, locked := none }) _
  jvm_step X₁.here [X₁.here.top, hexec, d3', Value.category]
  exact X₁.ldcString hexec (own := own) (text := text) (index := is) (a := sa) hown' hstr'.1 hstr'.2
    (g := { method := m, pc := pc + 4, locals := ls, stack := .ref T.heap.size :: .ref T.heap.size :: rest, locked := none }) rfl d4' _ hsteps
/-- 'throw new E("text")', the text by a wide index -/
theorem vx_throwSW {cc : ByteArray} {pc : Nat} (hexec : p.tables.exec = Jvm.exec) (hb : c.code = cc) (hl : l.stackTraces = false) {own cls text : String} {names : List String} {ik is ic mc ms sa : Nat} {A : Nat → Prop}
    (hown : s.vm.findClass own = some m.cls) (hcls : Bundle.fit cls = true) (hnames : ∀ n ∈ names, Bundle.fit n = true)
    (hk : (Cond.classLink own ik cls).before args s = true) (hini : (Cond.initialized cls).before args s = true) (hstr : vk_R own is text sa s) (hat : ∀ w ∈ vx_atS own ic cls names, w.before args s = true)
    (hgood : ∀ w ∈ Cond.classLink own ik cls :: Cond.initialized cls :: vx_atS own ic cls names, vx_ot w = true)
    (hU : vx_Zq Bundle.tN "UNASSIGNED_STACK" Bundle.steD A s s.heap) (hN : vx_Zq Bundle.tN "SUPPRESSED_SENTINEL" Bundle.listD A s s.heap) (hS : va_S A s.heap H locs) (hsize : ls.size = c.maxLocals)
    (d0 : decode cc pc = .ok (.new ik, 3)) (d3 : decode cc (pc + 3) = .ok (.dup, 1)) (d4 : decode cc (pc + 4) = .ok (.ldc_w is, 3)) (d7 : decode cc (pc + 7) = .ok (.invokespecial ic, 3)) (d10 : decode cc (pc + 10) = .ok (.athrow, 1))
    (hout : ∀ x ∈ c.exceptionTable.toList, covers x (pc + 10) = false)
    (hRframes : names.length + 3 < R.frames) (hRlocals : (rest.map fun v => v.category).sum + (13 * (names.length + 1) + 43) ≤ R.locals) (hRcells : cells + 1 ≤ R.cells) (hRslots : slots + 6 ≤ R.slots) (hlocks : meth.locks = false)
    (hx : ∀ t : State, s.vm.Alike t.vm → H.size ≤ t.heap.size → (∀ q : Nat, q < H.size → t.heap[q]? = H[q]?) → XC cls s t)
    (hf : ∀ z ∈ locs, free z.base) (hc : cells + 1 ≤ mc) (hs : slots + 6 ≤ ms) :
    W p l e R s m args below meth c H locs cells slots (vx_MQ below Qc XC args s mc ms free) (F0 m pc ls rest) := by
  intro T hT X
  have htr : e.platform.stackTraces = false := (show e.platform.stackTraces = l.stackTraces by rw [X.admits.platform]).trans hl
  have Y := vx_rebase X (R' := { frames := R.frames, locals := R.locals, cells := 1, slots := 6 }) (Nat.le_refl _) (Nat.le_refl _) hRcells hRslots
  obtain ⟨s', hA⟩ : ∃ z, z = (T.setVm s.vm).setFrames (.invoking m args :: below) := ⟨_, rfl⟩
  rw [← hA] at Y
  have hvm : s'.vm = s.vm := by rw [hA]; rfl
  have hhp : s'.heap = H := by rw [hA]; exact hT
  have hW0 : s.WarmedH s'.vm := by rw [hvm]; exact State.WarmedH.refl s
  have hat' : ∀ w ∈ vx_atS own ic cls names, w.before args s' = true := fun w hw => vx_ot_at hW0 hvm.symm (hgood w (List.mem_cons_of_mem _ (List.mem_cons_of_mem _ hw))) (hat w hw)
  have hk' : (Cond.classLink own ik cls).before args s' = true := vx_ot_at hW0 hvm.symm (hgood _ List.mem_cons_self) hk
  have hini' : (Cond.initialized cls).before args s' = true := vx_ot_at hW0 hvm.symm (hgood _ (List.mem_cons_of_mem _ List.mem_cons_self)) hini
  have hU' : vx_Zq Bundle.tN "UNASSIGNED_STACK" Bundle.steD A s' s'.heap := by rw [hhp]; exact vx_Zq.moved hW0.alike (hU.kept hS.2.1)
  have hN' : vx_Zq Bundle.tN "SUPPRESSED_SENTINEL" Bundle.listD A s' s'.heap := by rw [hhp]; exact vx_Zq.moved hW0.alike (hN.kept hS.2.1)
  have h : ∀ w ∈ Bundle.ownAtoms own ic cls names, w.before args s' = true := vx_own hat' (vx_isRefq hU'.1) (vx_isRefq hN'.1) hU'.2.word hN'.2.word
  have hown' : s'.vm.findClass own = some m.cls := by rw [hvm]; exact hown
  have hins : (Cond.instantiable cls 6).before args s' = true := h _ (by simp [Bundle.ownAtoms])
  obtain ⟨vm₁, cX, kX, hfX, hkX, -, -, X₁, st1⟩ := Y.newCold hexec (own := own) (C := cls) (index := ik) (n := 6) hown' hk' hins hini'
    (g := F0 m pc ls rest) rfl (by rw [hb]; exact d0) (Nat.le_refl _) (Nat.le_refl _)
  generalize hT1 : (T.setVm vm₁).pushCell { cls := cX, slots := kX.instanceTypes.map defaultValue, vm := .none } = T1 at X₁ st1
  have hcat : (Value.ref T.heap.size).category = 1 := rfl
  have hcellA : T1.heap[T.heap.size]? = some (freshCell cX kX) := by rw [← hT1]; exact State.heap_pushCell_size _ _
  have d3' : decode c.code (pc + 3) = .ok (.dup, 1) := by rw [hb]; exact d3
  have d4' : decode c.code (pc + 4) = .ok (.ldc_w is, 3) := by rw [hb]; exact d4
  have hstr' : vk_R own is text sa s' := vk_R.warm hW0 hstr
  obtain ⟨U, hsteps, hrun, hend, hW, hsame, ce, hce, hO⟩ := X₁.ctorThrowS hexec htr (own := own) (cls := cls) (names := names) (ic := ic) hown' hcls hnames h (fun x hx => nomatch hx) hfX hkX hcellA (by rw [hhp, hT]; exact Nat.le_refl _) (msg := .ref sa) rfl
    (g := { method := m, pc := pc + 7, locals := ls, stack := .ref sa :: .ref T.heap.size :: .ref T.heap.size :: rest, locked := none }) rfl hsize rfl rfl (rest := rest) rfl
    (by rw [hb]; exact d7) (by rw [hb]; exact d10) hout hRframes (by simp only [List.map_cons, List.sum_cons, hcat]; omega) hlocks
  obtain ⟨f1, f2⟩ := vx_frame hsame
  rw [hhp] at f1 f2
  have hWs : s.WarmedH U.vm := State.WarmedH.trans hW0 hW
  have hcl : s.vm.findClass cls = some ce.cls := by
    have h9 := hO.cls
    rw [hvm] at h9
    exact h9
  have hall : s.sameButNew ({ U with vm := s.vm } : State) locs mc ms := by
    subst hA
    obtain ⟨e1, e2⟩ := hsame
    rw [State.setFrames_setFrames] at e1
    have h2 : (T.setVm s.vm).sameButNew ({ U with vm := s.vm } : State) [] (0 + 1) (0 + 6) := ⟨e1, e2⟩
    have h3 := X.same.trans h2
    rw [List.append_nil] at h3
    exact h3.mono hc hs
  refine ⟨U, ?_, .threw T.heap.size, hrun, hend, Or.inr ⟨T.heap.size, rfl, cls, ce, locs, hx U hWs.alike f1 (fun q hq => f2 q hq (fun z hz => nomatch hz)), hce, hO.vm, hcl, hWs, hall, hf⟩⟩
  refine st1 _ ?_
  show Steps p.tables e below (T1.setTop { method := m, pc := pc + 3, locals := ls, stack := .ref T.heap.size :: rest, locked := none }) _
  jvm_step X₁.here [X₁.here.top, hexec, d3', Value.category]
  exact X₁.ldcStringW hexec (own := own) (text := text) (index := is) (a := sa) hown' hstr'.1 hstr'.2
    (g := { method := m, pc := pc + 4, locals := ls, stack := .ref T.heap.size :: .ref T.heap.size :: rest, locked := none }) rfl d4' _ hsteps
end Ends
section Bodies
variable {l : Launch}
theorem vx_ofW {y : MethodName} {ws ws' : List Cond} {rm : Room} {Pc : Array Value → State → Prop} {Qc : Array Value → State → Outcome → State → Prop} {XC : String → State → State → Prop} {mc ms : Nat} {free : Addr → Prop} {cc : ByteArray} {maxL : Nat} {ret : Option FieldType}
    (hy : plainName y.cls = true) (hw : ws = Cond.code y cc maxL ret :: ws')
    (body : ∀ p e s m args below meth c s₁, BodyLoose p l y (headSpec ws rm) cc maxL ret e s m args below meth c s₁ → c.maxLocals = maxL → (∀ x ∈ c.exceptionTable.toList, False) → Pc args s →
      W p l e (headSpec ws rm).room s m args below meth c s.heap [] 0 0 (vx_MQ below Qc XC args s mc ms free) (entryFrame m args maxL)) : vx_Met l y ws rm Pc Qc XC mc ms free := by
  refine MetFree.of_bodyS (code := cc) (maxLocals := maxL) (ret := ret) hy ?_ ?_
  · intro args s m h hn
    obtain ⟨meth, c, h1, h2, h3, h4, h5, h6, -, -⟩ := Cond.code_spec hn (atoms_spec (ws := ws) h _ (by rw [hw]; exact List.mem_cons_self))
    exact ⟨meth, c, h1, h2, h3, h4, h5, h6⟩
  · intro p e s m args below meth c s₁ B hml hP _
    have hh0 : s₁.heap = s.heap := by rw [B.state]; rfl
    have ht : ∀ x ∈ c.exceptionTable.toList, False := by
      obtain ⟨meth9, c9, h1, h2, -, -, -, -, h7, -⟩ := Cond.code_spec B.named (atoms_spec (ws := ws) B.pre _ (by rw [hw]; exact List.mem_cons_self))
      cases Option.some.inj (h1.symm.trans B.method)
      cases Option.some.inj (h2.symm.trans (Stand.of_body B).code)
      intro x hx
      rw [Array.isEmpty_iff.mp h7] at hx
      cases hx
    obtain ⟨t, a1, o, b1, b2, b3⟩ := body p e s m args below meth c s₁ B hml ht hP s₁ hh0 (Stand.of_body B)
    exact ⟨t, o, a1, b1, b2, b3⟩
/-- the table of a body with handlers -/
theorem vx_table {p : Program} {x y : MethodName} {S : Spec} {cc bytes : ByteArray} {maxL maxL' : Nat} {ret ret' : Option FieldType} {e : Env} {s s₁ : State} {m : MethodId} {args : Array Value} {below : List Frame} {meth : Method} {c : Code} {hh : List (Nat × Nat × Nat × Nat)}
    (B : BodyLoose p l y S cc maxL ret e s m args below meth c s₁) (h : (Cond.codeWith y bytes maxL' ret' hh).before args s = true) : c.exceptionTable.toList = tableOf hh := by
  obtain ⟨m9, meth9, c9, hn9, h1, h2, -, -, h6, -⟩ := Cond.codeWith_spec h
  cases Option.some.inj (hn9.symm.trans B.named)
  cases Option.some.inj (h1.symm.trans B.method)
  cases Option.some.inj (h2.symm.trans (Stand.of_body B).code)
  rw [← h6, table_eq]
end Bodies
end VXA
/-! ===== END ===== -/
/-! ===== BEGIN a static call of a method with an exception table ===== -/
section VXS
variable {p : Program} {l : Launch} {e : Env} {R : Room} {s : State} {m : MethodId} {args : Array Value} {below : List Frame} {meth : Method} {c : Code} {T : State} {H : Heap} {locs : List Loc} {cells slots : Nat}
abbrev vx_CSW (R : Room) (s : State) (args : Array Value) (own : String) (index : Nat) (y : MethodName) (bytes : ByteArray) (maxL : Nat) (ret : Option FieldType) (hh : List (Nat × Nat × Nat × Nat)) (ws : List Cond) (rm : Room) (mc ms n : Nat) : Prop :=
  (rm.cells = mc ∧ rm.slots = ms ∧ rm.frames + 1 ≤ R.frames ∧ 8 + (maxL + 11) + rm.locals ≤ R.locals ∧ (∀ w ∈ ws, ∀ (a' : Array Value) (U : State), s.WarmedH U.vm → w.before a' U = true) ∧ Cond.codeWith y bytes maxL ret hh ∈ ws) ∧
  (Cond.codeWith y bytes maxL ret hh).before args s = true ∧ (Cond.initialized y.cls).before args s = true ∧ (y.cls ≠ "java/lang/invoke/MethodHandle" ∧ y.cls ≠ "java/lang/invoke/VarHandle") ∧
  (∀ sig, parseMethodDescriptor y.desc = some sig → n = sig.parameters.length) ∧ (Cond.methodLink own index y).before args s = true ∧ (Cond.static y).before args s = true
theorem vx_cwSW {own : String} {index maxL mc ms : Nat} {y : MethodName} {bytes : ByteArray} {ret : Option FieldType} {hh : List (Nat × Nat × Nat × Nat)} {Ts ws ws' : List Cond} {rm : Room} (n : Nat) (ht : ∀ w ∈ Ts, w.before args s = true) (hT : GoodIn Ts (va_wsS own index y ws)) (hw : ws = Cond.codeWith y bytes maxL ret hh :: ws') (hrc : rm.cells = mc) (hrs : rm.slots = ms)
    (hd : y.cls ≠ "java/lang/invoke/MethodHandle" ∧ y.cls ≠ "java/lang/invoke/VarHandle" ∧ (parseMethodDescriptor y.desc).map (fun d => d.parameters.length) = some n) (hR : rm.frames + 1 ≤ R.frames ∧ 8 + (maxL + 11) + rm.locals ≤ R.locals) :
    vx_CSW R s args own index y bytes maxL ret hh ws rm mc ms n := by
  have ok : ∀ w ∈ va_wsS own index y ws, w.before args s = true := fun w h => ht w (hT w h).1
  have hG : GoodIn Ts ws := fun w h => hT w (by unfold va_wsS; exact List.mem_append_right _ h)
  have hc : Cond.codeWith y bytes maxL ret hh ∈ ws := by rw [hw]; exact List.mem_cons_self
  refine ⟨⟨hrc, hrs, hR.1, hR.2, pay_in ht hG, hc⟩, ht _ (hG _ hc).1, ok _ (by simp [va_wsS]), ⟨hd.1, hd.2.1⟩, fun sig h => ?_, ok _ (by simp [va_wsS]), ok _ (by simp [va_wsS])⟩
  have h2 := hd.2.2
  rw [h] at h2
  exact (Option.some.inj h2).symm
theorem vx_callSW (X : Stand p l e R s m args below meth c T locs cells slots) (hexec : p.tables.exec = Jvm.exec) {own : String} {index : Nat} {y : MethodName} {bytes : ByteArray} {maxL : Nat} {ret : Option FieldType} {hh : List (Nat × Nat × Nat × Nat)}
    (hown : s.vm.findClass own = some m.cls) (hlink : (Cond.methodLink own index y).before args s = true) (hstat : (Cond.static y).before args s = true) (hinit : (Cond.initialized y.cls).before args s = true)
    (hcode : (Cond.codeWith y bytes maxL ret hh).before args s = true) (hy : y.cls ≠ "java/lang/invoke/MethodHandle" ∧ y.cls ≠ "java/lang/invoke/VarHandle")
    {W9 : Nat} {Pre : Pt → Array Value → Prop} {Post : Pt → Array Value → Option Value → Pt → Prop} (hK : Back l R p e below s args y 3 W9 Pre Post)
    {g : JFrame} (hg : g.method = m) (hsize : g.locals.size = c.maxLocals) {argsL rest : List Value} (hlen : ∀ sig, parseMethodDescriptor y.desc = some sig → argsL.length = sig.parameters.length)
    (hstack : g.stack = argsL.reverse ++ rest) (hW : 2 * g.monitorRoom + (rest.map fun v => v.category).sum ≤ W9) (hdg : decode c.code g.pc = .ok (.invokestatic index, 3))
    (hpre : ∀ vm₁, s.WarmedH vm₁ → Pre ⟨T.setVm vm₁, locs, cells, slots⟩ argsL.toArray) :
    ∃ (v : Option Value) (vm₁ : Vm) (B : Pt), s.WarmedH vm₁ ∧ Stand p l e R s m args below meth c B.U B.locs B.cells B.slots ∧ Post ⟨T.setVm vm₁, locs, cells, slots⟩ argsL.toArray v B ∧
      ∀ target, Steps p.tables e below (B.U.setTop { g with pc := g.pc + 3, stack := v.toList ++ rest }) target → Steps p.tables e below (T.setTop g) target := by
  obtain ⟨mk, methM, cM, hnamed, hmethM, -, -, -, -, -, -, hsigM⟩ := Cond.codeWith_spec hcode
  have hstatic : methM.isStatic = true := Cond.static_spec hnamed hmethM hstat
  obtain ⟨kP, hkP, -⟩ := className_of_methodNamed hnamed
  have hinitP : kP.init = .initialized := Cond.initialized_spec (findClass_of_methodNamed hnamed) hkP hinit
  obtain ⟨vm₁, X₁, hstep₁⟩ := X.invokestatic hexec hown hlink hnamed hmethM hstatic hkP hinitP hy (g := g) hg (argsL := argsL) (rest := rest) (hlen _ hsigM) hstack hdg
  obtain ⟨v, B, X', hpost, hsteps⟩ := hK m meth c ⟨T.setVm vm₁, locs, cells, slots⟩ { g with stack := rest } (.invokestatic index) mk argsL.toArray X₁ hg hsize hdg hW (X₁.named hnamed) (hpre vm₁ X₁.warmed)
  exact ⟨v, vm₁, B, X₁.warmed, X', hpost, fun target h => hstep₁ _ fun acts => by rw [doInvoke_state]; exact hsteps.trans h⟩
theorem vx_runSW {y : MethodName} {bytes cc : ByteArray} {maxL nL mc ms n index : Nat} {ret : Option FieldType} {hh : List (Nat × Nat × Nat × Nat)} {ws : List Cond} {rm : Room} {Pc : Array Value → State → Prop} {Qc : Array Value → State → Outcome → State → Prop} {free : Addr → Prop} {Ts : List Cond} {own : String} {As rest : List Value} {g : JFrame}
    (S : CallFix p m c cc nL s args Ts own) (hM : Met l y ws rm Pc Qc mc ms free) (cw : vx_CSW R s args own index y bytes maxL ret hh ws rm mc ms n) (hp : PreS s H Pc As)
    (hg : g.method = m) (hn : As.length = n) (hsize : g.locals.size = nL) (hstack : g.stack = As.reverse ++ rest) (hW : 2 * g.monitorRoom + (rest.map fun v => v.category).sum ≤ 8) (hdg : decode cc g.pc = .ok (.invokestatic index, 3)) (hf : cells + mc ≤ R.cells ∧ slots + ms ≤ R.slots) :
    va_Run p l e R s m args below meth c H locs cells slots mc ms g rest (Qc As.toArray) (free) := by
  obtain ⟨⟨hrc, hrs, hfr, hlo, hws, hcw⟩, hcode, hini, hy, hlen, hl, hstt⟩ := cw
  have hK : Back l R p e below s args y 3 8 (PreOf R mc ms Pc) (PostOf Qc mc ms free) := va_backW (hh := hh) (bytes := bytes) (maxL := maxL) (ret := ret) hM hp.1 hrc hrs hfr hlo hws hcw (fun a' U hW => word_at hW (Or.inl (by first | rfl | simp [Cond.onTables, Cond.keeps, Cond.steady])) hini)
  obtain ⟨hx, hb, hml, ho, -⟩ := S
  intro T hT X
  obtain ⟨v, vm₁, ⟨U', l2, c2, s2⟩, hW₁, X', ⟨g', mk, t, L, e1, e2, hq, h1, hL, h2, h3⟩, st⟩ := vx_callSW X hx (hh := hh) (bytes := bytes) (maxL := maxL) (ret := ret) ho hl hstt hini hcode hy hK hg (hsize.trans hml.symm) (argsL := As) (rest := rest) (fun sig h => hn.trans (hlen sig h)) hstack hW (by rw [hb]; exact hdg)
    (fun vm₁ hW₁ => ⟨hf.1, hf.2, hp.2 (T.setVm vm₁) hT hW₁⟩)
  dsimp only [Pt.U, Pt.locs, Pt.cells, Pt.slots] at X' e1 e2 h1 h2 h3 st
  subst h1; subst h2; subst h3
  exact ⟨v, (T.setVm vm₁).calling g' mk As.toArray, t, U', L, hT, X', hL, e1, e2, hq, st⟩
/-- not caught here, past rows that name other classes: it goes on to the caller -/
theorem vx_outP {p : Program} {l : Launch} {e : Env} {R : Room} {s : State} {m : MethodId} {args : Array Value} {below : List Frame} {meth : Method} {c : Code} {H : Heap} {locs : List Loc} {cells slots : Nat} {free : Addr → Prop} {ls : Array Slot} {rest : List Value} {Qc : Array Value → State → Outcome → State → Prop} {XC : String → State → State → Prop}
    {pc : Nat} {own E : String} {ce : Cell} {q : Addr} {mc ms : Nat} (hown : s.vm.findClass own = some m.cls) (hlocks : meth.locks = false)
    (hpass : ∀ z ∈ c.exceptionTable.toList, covers z pc = false ∨ (z.catchType ≠ 0 ∧ ∃ nm : String, (Cond.classLink own z.catchType nm).before args s = true ∧ va_Nc E nm s)) (hcell : H[q]? = some ce) (hv : ce.vm = .none) (hcl : s.vm.findClass E = some ce.cls)
    (hx : ∀ t : State, t.heap = H → s.vm.Alike t.vm → XC E s t) (hf : ∀ z ∈ locs, free z.base) (hc : cells ≤ mc) (hs : slots ≤ ms) :
    vx_W p l e R s m args below meth c H locs cells slots (vx_MQ below Qc XC args s mc ms free) (F0 m pc ls rest) q := by
  intro T hT X
  have hpl : e.platform.magicAccessors = ({} : Platform).magicAccessors := by rw [X.admits.platform]
  obtain ⟨vm', hW', X', st⟩ := X.outThrough hlocks q (g := F0 m pc ls rest) rfl rfl rfl (cell := ce) (by rw [hT]; exact hcell) (by rw [hv]; rfl)
    (by obtain ⟨k9, h9, -⟩ := Vm.findClass_spec hcl; exact ⟨k9, h9⟩) (fun z hz => by
      rcases hpass z hz with h | ⟨hz0, nm, hl1, hn1⟩
      · exact Or.inl h
      · obtain ⟨c6, hc6, hcl6⟩ := Cond.classLink_spec hown hl1 e.platform hpl
        obtain ⟨a8, b8, h1, h2, h3⟩ := hn1
        cases Option.some.inj (h1.symm.trans hcl)
        cases Option.some.inj (h2.symm.trans hc6)
        exact Or.inr ⟨hz0, _, hcl6, h3⟩)
  obtain ⟨g₀, hfr⟩ := X'.frames_eq
  have hcell9 : ((T.setVm vm').setFrames (.throwing q :: below)).heap[q]? = some ce := by
    show T.heap[q]? = some ce
    rw [hT]; exact hcell
  have hend : Ended ((T.setVm vm').setFrames (.throwing q :: below)) below (.threw q) := State.frames_setFrames _ (State.cur_lt_of_frames hfr)
  refine ⟨(T.setVm vm').setFrames (.throwing q :: below), ?_, .threw q, X'.here.running, hend, Or.inr ⟨q, rfl, E, ce, locs, hx _ hT (X'.ends _).1.alike, hcell9, hv, hcl, (X'.ends _).1, (X'.ends _).2.mono hc hs, hf⟩⟩
  rw [X.pushThrowing_eq]
  exact st
/-- a thing of a world lies in the heap -/
theorem vx_lt {D : va_G} {cl : List vw_C} {ws : va_W} {H1 : Heap} (h : va_P D cl ws H1) {k : Nat} {q : Nat × va_E} (hk : ws[k]? = some q) : q.1 < H1.size := (h k q hk).lt
end VXS
/-! ===== END ===== -/
/-! ===== BEGIN methods with a table of their own: called by a name, returning or throwing ===== -/
section VXH
/-! vx_backW, vx_callVX, vx_callSX, vx_callVW, vx_runVW, vx_runVX, vx_runSX, vx_ofWH follow the same proofs as their sisters above (Free/Laws.lean, Shelf42/LK1.lean); vx_outP calls Shelf42/NT130.lean (outThrough). -/
section
variable {l : Launch} {R : Room} {p : Program} {e : Env} {below : List Frame} {s : State} {sargs : Array Value} {y : MethodName} {len W9 : Nat}
theorem vx_backW {ws : List Cond} {rm : Room} {Pc : Array Value → State → Prop} {Qc : Array Value → State → Outcome → State → Prop} {XC : String → State → State → Prop} {mc ms : Nat} {free : Addr → Prop} {bytes : ByteArray} {maxL : Nat} {ret : Option FieldType} {hh : List (Nat × Nat × Nat × Nat)}
    (hM : vx_Met l y ws rm Pc Qc XC mc ms free) (hblind : FrameBlind Pc) (hrc : rm.cells = mc) (hrs : rm.slots = ms)
    (hframes : rm.frames + 1 ≤ R.frames) (hlocals : W9 + (maxL + 11) + rm.locals ≤ R.locals)
    (hws : ∀ w ∈ ws, ∀ a' U, s.WarmedH U.vm → w.before a' U = true) (hcode : Cond.codeWith y bytes maxL ret hh ∈ ws) (hinit : ∀ a' U, s.WarmedH U.vm → (Cond.initialized y.cls).before a' U = true) :
    vx_Back l R p e below s sargs y len W9 (PreOf R mc ms Pc) (PostOf Qc mc ms free) (vx_Post XC mc ms free) := by
  intro m meth c A g ig mk a X hg hsize hdg hW hn hp
  have h1 : (headSpec ws rm).pre.before a A.U = true := atoms_intro fun w hw => hws w hw _ _ X.warmed
  have h2 : (Cond.codeWith y bytes maxL ret hh).before a A.U = true := hws _ hcode _ _ X.warmed
  have h3 : (Cond.initialized y.cls).before a A.U = true := hinit _ _ X.warmed
  have h4 : A.cells + (headSpec ws rm).room.cells ≤ R.cells := by rw [show (headSpec ws rm).room.cells = mc from hrc]; exact hp.1
  have h5 : A.slots + (headSpec ws rm).room.slots ≤ R.slots := by rw [show (headSpec ws rm).room.slots = ms from hrs]; exact hp.2.1
  have hPc : Pc a (A.U.calling g mk a) := hblind _ _ _ _ hp.2.2
  obtain ⟨U, Ls, c0, s0⟩ := A
  dsimp only [Pt.U, Pt.locs, Pt.cells, Pt.slots] at h1 h2 h3 h4 h5 X hn hPc ⊢
  obtain ⟨m9, methY, cY, hn9, hmY, hcY, -, hlY, -⟩ := Cond.codeWith_spec h2
  cases Option.some.inj (hn9.symm.trans hn)
  obtain ⟨kY, hkY, -⟩ := className_of_methodNamed hn
  have hinitY : kY.init = .initialized := Cond.initialized_spec (findClass_of_methodNamed hn) hkY h3
  have h : At U g.method c below := by rw [hg]; exact X.here
  have hlocals9 : W9 + (maxL + 11) + (headSpec ws rm).room.locals ≤ R.locals := hlocals
  have happ : (headSpec ws rm).appliesLoose y e.platform (U.calling g mk a) = true :=
    Spec.appliesLoose_calling (g := g) h hdg hn hkY hinitY
      (X.room_calling (g := g) (R' := (headSpec ws rm).room) hsize hmY hcY hframes (by rw [hlY]; omega) h4 h5) h1
  obtain ⟨mid, hmid⟩ := h.above
  have hfr : (U.setTop g).frames = (.java g :: mid) ++ below := by rw [State.frames_setTop' g h.top, hmid]; rfl
  obtain ⟨o, s₂, hsteps, -, hend, hq⟩ := Steps.callFree hM p X.admits X.cas X.clock (acts := []) hfr happ hPc trivial
  have hq' : vx_Q Qc XC mc ms free a (U.calling g mk a) o s₂ := hq
  rw [State.frames_setTop' g h.top] at hend
  obtain ⟨g₀, hg0⟩ := Option.isSome_iff_exists.mp h.top
  obtain ⟨r, hr⟩ := State.topJava?_eq_some.mp hg0
  have hr' : (({ U with heap := s₂.heap, slotsUsed := s₂.slotsUsed } : State).setVm s₂.vm).frames = .java g₀ :: r := hr
  rcases hq' with ⟨hqc, L, hfe, hL⟩ | ⟨q, rfl, E, ce, L, hx, hce, hcv, hcl, hW₂, hsm, hL⟩
  · obtain ⟨⟨v, rfl⟩, hW₂, e2, q2, q3, q4, q5, q6⟩ := id hfe
    have e3 : s₂ = ({ (U.calling g mk a).setFrames s₂.frames with heap := s₂.heap, slotsUsed := s₂.slotsUsed } : State).setVm s₂.vm := by
      have : s₂ = ({ s₂ with vm := (U.calling g mk a).vm } : State).setVm s₂.vm := rfl
      rw [e2] at this
      exact this
    obtain ⟨c₂, i₂, len₂, hc₂, hd₂, hf₂⟩ := hend
    have hW' : U.WarmedH s₂.vm := hW₂
    have hcc : c₂ = c := by
      have h1 : s₂.code? g.method = U.code? g.method := by
        rw [State.code?_eq, State.code?_eq, hW'.alike.method?]
      exact Option.some.inj (hc₂.symm.trans (h1.trans h.code))
    subst hcc
    have hlen : len₂ = len := by rw [hdg] at hd₂; cases hd₂; rfl
    subst hlen
    have hs₂ : s₂ = (({ U with heap := s₂.heap, slotsUsed := s₂.slotsUsed } : State).setVm s₂.vm).setTop { g with pc := g.pc + len₂, stack := v.toList ++ g.stack } := by
      refine e3.trans ?_
      rw [hf₂, State.calling_eq h.top, State.setFrames_setFrames, State.setTop_of_frames _ hr', hr]
      rfl
    have hsame : U.sameButNew ({ U with heap := s₂.heap, slotsUsed := s₂.slotsUsed } : State) L mc ms := by
      refine ⟨?_, q2, q3, q4, q5, q6⟩
      obtain ⟨t, ht, -⟩ := State.frames_cons hr
      show ({ U with heap := s₂.heap, slotsUsed := s₂.slotsUsed } : State) = { U.setFrames U.frames with heap := s₂.heap, slotsUsed := s₂.slotsUsed }
      rw [State.setFrames_self ht]
    subst hg
    refine Or.inl ⟨v, ⟨(({ U with heap := s₂.heap, slotsUsed := s₂.slotsUsed } : State).setVm s₂.vm), Ls ++ L, c0 + mc, s0 + ms⟩,
      ⟨X.admits, X.cas, X.clock, X.frames, X.room, X.hears, X.method, X.code, (X.here.setHeapUsed s₂.heap s₂.slotsUsed).setVm hW'.alike, X.tail, State.WarmedH.trans X.warmed hW', X.limits, X.bytes, X.same.trans (hsame.setVm s.vm)⟩,
      ⟨g, mk, s₂, L, rfl, rfl, hqc, rfl, hL, rfl, rfl⟩, ?_⟩
    show Steps p.tables e below _ ((({ U with heap := s₂.heap, slotsUsed := s₂.slotsUsed } : State).setVm s₂.vm).setTop { g with pc := g.pc + len₂, stack := v.toList ++ g.stack })
    rw [← hs₂]
    exact hsteps
  · obtain ⟨e2, q2, q3, q4, q5, q6⟩ := id hsm
    have e3 : s₂ = ({ (U.calling g mk a).setFrames s₂.frames with heap := s₂.heap, slotsUsed := s₂.slotsUsed } : State).setVm s₂.vm := by
      have : s₂ = ({ s₂ with vm := (U.calling g mk a).vm } : State).setVm s₂.vm := rfl
      rw [e2] at this
      exact this
    have hf₂ : s₂.frames = .throwing q :: .java g :: U.frames.tail := hend
    have hW' : U.WarmedH s₂.vm := hW₂
    have hs₂ : s₂ = ((({ U with heap := s₂.heap, slotsUsed := s₂.slotsUsed } : State).setVm s₂.vm).setTop g).pushFrame (.throwing q) := by
      refine e3.trans ?_
      rw [hf₂, State.calling_eq h.top, State.setFrames_setFrames, State.pushFrame, State.frames_setTop _ hr', State.setTop_of_frames _ hr', State.setFrames_setFrames, hr]
      rfl
    have hsame : U.sameButNew ({ U with heap := s₂.heap, slotsUsed := s₂.slotsUsed } : State) L mc ms := by
      refine ⟨?_, q2, q3, q4, q5, q6⟩
      obtain ⟨t, ht, -⟩ := State.frames_cons hr
      show ({ U with heap := s₂.heap, slotsUsed := s₂.slotsUsed } : State) = { U.setFrames U.frames with heap := s₂.heap, slotsUsed := s₂.slotsUsed }
      rw [State.setFrames_self ht]
    subst hg
    refine Or.inr ⟨q, ⟨(({ U with heap := s₂.heap, slotsUsed := s₂.slotsUsed } : State).setVm s₂.vm), Ls ++ L, c0 + mc, s0 + ms⟩,
      ⟨X.admits, X.cas, X.clock, X.frames, X.room, X.hears, X.method, X.code, (X.here.setHeapUsed s₂.heap s₂.slotsUsed).setVm hW'.alike, X.tail, State.WarmedH.trans X.warmed hW', X.limits, X.bytes, X.same.trans (hsame.setVm s.vm)⟩,
      ⟨g, mk, s₂, L, E, ce, rfl, rfl, hx, hce, hcv, hcl, rfl, hL, rfl, rfl⟩, ?_⟩
    show Steps p.tables e below _ (((({ U with heap := s₂.heap, slotsUsed := s₂.slotsUsed } : State).setVm s₂.vm).setTop g).pushFrame (.throwing q))
    rw [← hs₂]
    exact hsteps
end
variable {p : Program} {l : Launch} {e : Env} {R : Room} {s : State} {m : MethodId} {args : Array Value} {below : List Frame} {meth : Method} {c : Code} {T : State} {H : Heap} {locs : List Loc} {cells slots : Nat}
theorem vx_callVX (X : Stand p l e R s m args below meth c T locs cells slots) (hexec : p.tables.exec = Jvm.exec) {own C : String} {index : Nat} {y : MethodName} {bytes : ByteArray} {maxL : Nat} {ret : Option FieldType} {hh : List (Nat × Nat × Nat × Nat)}
    (hown : s.vm.findClass own = some m.cls) (hlink : (Cond.methodLink own index y).before args s = true) (hinst : (Cond.instanceMethod y).before args s = true) (hsel : (Cond.selects C y y).before args s = true)
    (hcode : (Cond.codeWith y bytes maxL ret hh).before args s = true) (hy : y.cls ≠ "java/lang/invoke/MethodHandle" ∧ y.cls ≠ "java/lang/invoke/VarHandle")
    {W9 : Nat} {Pre : Pt → Array Value → Prop} {Post : Pt → Array Value → Option Value → Pt → Prop} {PostX : Pt → Array Value → Addr → Pt → Prop} (hK : vx_Back l R p e below s args y 3 W9 Pre Post PostX)
    {b : Addr} {cellB : Cell} (hcell : T.heap[b]? = some cellB) (hobj : cellB.vm.isStatics = false) (hcls : s.vm.findClass C = some cellB.cls)
    {g : JFrame} (hg : g.method = m) (hsize : g.locals.size = c.maxLocals) {argsL rest : List Value} (hlen : ∀ sig, parseMethodDescriptor y.desc = some sig → argsL.length = sig.parameters.length)
    (hstack : g.stack = argsL.reverse ++ .ref b :: rest) (hW : 2 * g.monitorRoom + (rest.map fun v => v.category).sum ≤ W9) (hdg : decode c.code g.pc = .ok (.invokevirtual index, 3))
    (hpre : ∀ vm₁, s.WarmedH vm₁ → Pre ⟨T.setVm vm₁, locs, cells, slots⟩ (Value.ref b :: argsL).toArray) :
    (∃ (v : Option Value) (vm₁ : Vm) (B : Pt), s.WarmedH vm₁ ∧ Stand p l e R s m args below meth c B.U B.locs B.cells B.slots ∧ Post ⟨T.setVm vm₁, locs, cells, slots⟩ (Value.ref b :: argsL).toArray v B ∧
      ∀ target, Steps p.tables e below (B.U.setTop { g with pc := g.pc + 3, stack := v.toList ++ rest }) target → Steps p.tables e below (T.setTop g) target) ∨
    (∃ (q : Addr) (vm₁ : Vm) (B : Pt), s.WarmedH vm₁ ∧ Stand p l e R s m args below meth c B.U B.locs B.cells B.slots ∧ PostX ⟨T.setVm vm₁, locs, cells, slots⟩ (Value.ref b :: argsL).toArray q B ∧
      Steps p.tables e below (T.setTop g) ((B.U.setTop { g with stack := rest }).pushFrame (.throwing q))) := by
  obtain ⟨mk, methM, hnamed, hmethM, hstM, habM⟩ := Cond.instanceMethod_spec hinst
  obtain ⟨m8, methM', cM, hn8, hmethM', -, -, -, -, -, -, hsigM⟩ := Cond.codeWith_spec hcode
  cases Option.some.inj (hn8.symm.trans hnamed)
  cases hmethM.symm.trans hmethM'
  obtain ⟨c2, r2, m2, q1, q2, q3, q4, kP, hkP, hkPi⟩ := Cond.selects_spec hsel
  cases hcls.symm.trans q1
  cases (State.methodFound?_of_named hnamed hy).symm.trans q2
  cases hnamed.symm.trans q3
  have hselP : selectMethod e.platform s.vm cellB.cls mk = .method mk := by rw [Launch.admits_selectMethod X.admits]; exact q4
  obtain ⟨vm₁, X₁, hstep₁⟩ := X.invokevirtual hexec hown hlink hnamed hmethM hstM hkP hkPi hy (a := b) (cell := cellB) hcell
    (fun z h => by rw [h] at hobj; cases hobj) hselP hmethM habM hkP hkPi (g := g) hg (argsL := argsL) (rest := rest) (hlen _ hsigM) hstack hdg
  rcases hK m meth c ⟨T.setVm vm₁, locs, cells, slots⟩ { g with stack := rest } (.invokevirtual index) mk (Value.ref b :: argsL).toArray X₁ hg hsize hdg hW (X₁.named hnamed) (hpre vm₁ X₁.warmed) with ⟨v, B, X', hpost, hsteps⟩ | ⟨q, B, X', hpost, hsteps⟩
  · exact Or.inl ⟨v, vm₁, B, X₁.warmed, X', hpost, fun target h => hstep₁ _ fun acts => by rw [doInvoke_state]; exact hsteps.trans h⟩
  · exact Or.inr ⟨q, vm₁, B, X₁.warmed, X', hpost, hstep₁ _ fun acts => by rw [doInvoke_state]; exact hsteps⟩
theorem vx_callSX (X : Stand p l e R s m args below meth c T locs cells slots) (hexec : p.tables.exec = Jvm.exec) {own : String} {index : Nat} {y : MethodName} {bytes : ByteArray} {maxL : Nat} {ret : Option FieldType} {hh : List (Nat × Nat × Nat × Nat)}
    (hown : s.vm.findClass own = some m.cls) (hlink : (Cond.methodLink own index y).before args s = true) (hstat : (Cond.static y).before args s = true) (hinit : (Cond.initialized y.cls).before args s = true)
    (hcode : (Cond.codeWith y bytes maxL ret hh).before args s = true) (hy : y.cls ≠ "java/lang/invoke/MethodHandle" ∧ y.cls ≠ "java/lang/invoke/VarHandle")
    {W9 : Nat} {Pre : Pt → Array Value → Prop} {Post : Pt → Array Value → Option Value → Pt → Prop} {PostX : Pt → Array Value → Addr → Pt → Prop} (hK : vx_Back l R p e below s args y 3 W9 Pre Post PostX)
    {g : JFrame} (hg : g.method = m) (hsize : g.locals.size = c.maxLocals) {argsL rest : List Value} (hlen : ∀ sig, parseMethodDescriptor y.desc = some sig → argsL.length = sig.parameters.length)
    (hstack : g.stack = argsL.reverse ++ rest) (hW : 2 * g.monitorRoom + (rest.map fun v => v.category).sum ≤ W9) (hdg : decode c.code g.pc = .ok (.invokestatic index, 3))
    (hpre : ∀ vm₁, s.WarmedH vm₁ → Pre ⟨T.setVm vm₁, locs, cells, slots⟩ argsL.toArray) :
    (∃ (v : Option Value) (vm₁ : Vm) (B : Pt), s.WarmedH vm₁ ∧ Stand p l e R s m args below meth c B.U B.locs B.cells B.slots ∧ Post ⟨T.setVm vm₁, locs, cells, slots⟩ argsL.toArray v B ∧
      ∀ target, Steps p.tables e below (B.U.setTop { g with pc := g.pc + 3, stack := v.toList ++ rest }) target → Steps p.tables e below (T.setTop g) target) ∨
    (∃ (q : Addr) (vm₁ : Vm) (B : Pt), s.WarmedH vm₁ ∧ Stand p l e R s m args below meth c B.U B.locs B.cells B.slots ∧ PostX ⟨T.setVm vm₁, locs, cells, slots⟩ argsL.toArray q B ∧
      Steps p.tables e below (T.setTop g) ((B.U.setTop { g with stack := rest }).pushFrame (.throwing q))) := by
  obtain ⟨mk, methM, cM, hnamed, hmethM, -, -, -, -, -, -, hsigM⟩ := Cond.codeWith_spec hcode
  have hstatic : methM.isStatic = true := Cond.static_spec hnamed hmethM hstat
  obtain ⟨kP, hkP, -⟩ := className_of_methodNamed hnamed
  have hinitP : kP.init = .initialized := Cond.initialized_spec (findClass_of_methodNamed hnamed) hkP hinit
  obtain ⟨vm₁, X₁, hstep₁⟩ := X.invokestatic hexec hown hlink hnamed hmethM hstatic hkP hinitP hy (g := g) hg (argsL := argsL) (rest := rest) (hlen _ hsigM) hstack hdg
  rcases hK m meth c ⟨T.setVm vm₁, locs, cells, slots⟩ { g with stack := rest } (.invokestatic index) mk argsL.toArray X₁ hg hsize hdg hW (X₁.named hnamed) (hpre vm₁ X₁.warmed) with ⟨v, B, X', hpost, hsteps⟩ | ⟨q, B, X', hpost, hsteps⟩
  · exact Or.inl ⟨v, vm₁, B, X₁.warmed, X', hpost, fun target h => hstep₁ _ fun acts => by rw [doInvoke_state]; exact hsteps.trans h⟩
  · exact Or.inr ⟨q, vm₁, B, X₁.warmed, X', hpost, hstep₁ _ fun acts => by rw [doInvoke_state]; exact hsteps⟩
theorem vx_callVW (X : Stand p l e R s m args below meth c T locs cells slots) (hexec : p.tables.exec = Jvm.exec) {own C : String} {index : Nat} {y : MethodName} {bytes : ByteArray} {maxL : Nat} {ret : Option FieldType} {hh : List (Nat × Nat × Nat × Nat)}
    (hown : s.vm.findClass own = some m.cls) (hlink : (Cond.methodLink own index y).before args s = true) (hinst : (Cond.instanceMethod y).before args s = true) (hsel : (Cond.selects C y y).before args s = true)
    (hcode : (Cond.codeWith y bytes maxL ret hh).before args s = true) (hy : y.cls ≠ "java/lang/invoke/MethodHandle" ∧ y.cls ≠ "java/lang/invoke/VarHandle")
    {W9 : Nat} {Pre : Pt → Array Value → Prop} {Post : Pt → Array Value → Option Value → Pt → Prop} (hK : Back l R p e below s args y 3 W9 Pre Post)
    {b : Addr} {cellB : Cell} (hcell : T.heap[b]? = some cellB) (hobj : cellB.vm.isStatics = false) (hcls : s.vm.findClass C = some cellB.cls)
    {g : JFrame} (hg : g.method = m) (hsize : g.locals.size = c.maxLocals) {argsL rest : List Value} (hlen : ∀ sig, parseMethodDescriptor y.desc = some sig → argsL.length = sig.parameters.length)
    (hstack : g.stack = argsL.reverse ++ .ref b :: rest) (hW : 2 * g.monitorRoom + (rest.map fun v => v.category).sum ≤ W9) (hdg : decode c.code g.pc = .ok (.invokevirtual index, 3))
    (hpre : ∀ vm₁, s.WarmedH vm₁ → Pre ⟨T.setVm vm₁, locs, cells, slots⟩ (Value.ref b :: argsL).toArray) :
    ∃ (v : Option Value) (vm₁ : Vm) (B : Pt), s.WarmedH vm₁ ∧ Stand p l e R s m args below meth c B.U B.locs B.cells B.slots ∧ Post ⟨T.setVm vm₁, locs, cells, slots⟩ (Value.ref b :: argsL).toArray v B ∧
      ∀ target, Steps p.tables e below (B.U.setTop { g with pc := g.pc + 3, stack := v.toList ++ rest }) target → Steps p.tables e below (T.setTop g) target := by
  obtain ⟨mk, methM, hnamed, hmethM, hstM, habM⟩ := Cond.instanceMethod_spec hinst
  obtain ⟨m8, methM', cM, hn8, hmethM', -, -, -, -, -, -, hsigM⟩ := Cond.codeWith_spec hcode
  cases Option.some.inj (hn8.symm.trans hnamed)
  cases hmethM.symm.trans hmethM'
  obtain ⟨c2, r2, m2, q1, q2, q3, q4, kP, hkP, hkPi⟩ := Cond.selects_spec hsel
  cases hcls.symm.trans q1
  cases (State.methodFound?_of_named hnamed hy).symm.trans q2
  cases hnamed.symm.trans q3
  have hselP : selectMethod e.platform s.vm cellB.cls mk = .method mk := by rw [Launch.admits_selectMethod X.admits]; exact q4
  obtain ⟨vm₁, X₁, hstep₁⟩ := X.invokevirtual hexec hown hlink hnamed hmethM hstM hkP hkPi hy (a := b) (cell := cellB) hcell
    (fun z h => by rw [h] at hobj; cases hobj) hselP hmethM habM hkP hkPi (g := g) hg (argsL := argsL) (rest := rest) (hlen _ hsigM) hstack hdg
  obtain ⟨v, B, X', hpost, hsteps⟩ := hK m meth c ⟨T.setVm vm₁, locs, cells, slots⟩ { g with stack := rest } (.invokevirtual index) mk (Value.ref b :: argsL).toArray X₁ hg hsize hdg hW (X₁.named hnamed) (hpre vm₁ X₁.warmed)
  exact ⟨v, vm₁, B, X₁.warmed, X', hpost, fun target h => hstep₁ _ fun acts => by rw [doInvoke_state]; exact hsteps.trans h⟩
abbrev vx_CVW (R : Room) (s : State) (args : Array Value) (own C : String) (index : Nat) (y : MethodName) (bytes : ByteArray) (maxL : Nat) (ret : Option FieldType) (hh : List (Nat × Nat × Nat × Nat)) (ws : List Cond) (rm : Room) (mc ms n : Nat) : Prop :=
  (rm.cells = mc ∧ rm.slots = ms ∧ rm.frames + 1 ≤ R.frames ∧ 8 + (maxL + 11) + rm.locals ≤ R.locals ∧ (∀ w ∈ ws, ∀ (a' : Array Value) (U : State), s.WarmedH U.vm → w.before a' U = true) ∧ Cond.codeWith y bytes maxL ret hh ∈ ws) ∧
  (Cond.codeWith y bytes maxL ret hh).before args s = true ∧ (Cond.initialized y.cls).before args s = true ∧ (y.cls ≠ "java/lang/invoke/MethodHandle" ∧ y.cls ≠ "java/lang/invoke/VarHandle") ∧
  (∀ sig, parseMethodDescriptor y.desc = some sig → n = sig.parameters.length) ∧ (Cond.methodLink own index y).before args s = true ∧ (Cond.instanceMethod y).before args s = true ∧ (Cond.selects C y y).before args s = true
theorem vx_cwVW {own C : String} {index maxL mc ms : Nat} {y : MethodName} {bytes : ByteArray} {ret : Option FieldType} {hh : List (Nat × Nat × Nat × Nat)} {Ts ws ws' : List Cond} {rm : Room} (n : Nat) (ht : ∀ w ∈ Ts, w.before args s = true) (hT : GoodIn Ts (wsV own index C y ws)) (hw : ws = Cond.codeWith y bytes maxL ret hh :: ws') (hrc : rm.cells = mc) (hrs : rm.slots = ms)
    (hd : y.cls = C ∧ y.cls ≠ "java/lang/invoke/MethodHandle" ∧ y.cls ≠ "java/lang/invoke/VarHandle" ∧ (parseMethodDescriptor y.desc).map (fun d => d.parameters.length) = some n) (hR : rm.frames + 1 ≤ R.frames ∧ 8 + (maxL + 11) + rm.locals ≤ R.locals) :
    vx_CVW R s args own C index y bytes maxL ret hh ws rm mc ms n := by
  obtain ⟨hC, hd⟩ := hd
  subst hC
  have ok : ∀ w ∈ wsV own index y.cls y ws, w.before args s = true := fun w h => ht w (hT w h).1
  have hG : GoodIn Ts ws := fun w h => hT w (by unfold wsV; exact List.mem_append_right _ h)
  have hc : Cond.codeWith y bytes maxL ret hh ∈ ws := by rw [hw]; exact List.mem_cons_self
  refine ⟨⟨hrc, hrs, hR.1, hR.2, pay_in ht hG, hc⟩, ht _ (hG _ hc).1, ok _ (by simp [wsV]), ⟨hd.1, hd.2.1⟩, fun sig h => ?_, ok _ (by simp [wsV]), ok _ (by simp [wsV]), ok _ (by simp [wsV])⟩
  have h2 := hd.2.2
  rw [h] at h2
  exact (Option.some.inj h2).symm
theorem vx_runVW {y : MethodName} {bytes cc : ByteArray} {maxL nL mc ms n index : Nat} {ret : Option FieldType} {hh : List (Nat × Nat × Nat × Nat)} {ws : List Cond} {rm : Room} {Pc : Array Value → State → Prop} {Qc : Array Value → State → Outcome → State → Prop} {free : Addr → Prop} {Ts : List Cond} {own C : String} {b : Addr} {As rest : List Value} {g : JFrame}
    (S : CallFix p m c cc nL s args Ts own) (hM : Met l y ws rm Pc Qc mc ms free) (cw : vx_CVW R s args own C index y bytes maxL ret hh ws rm mc ms n) (hp : PreV s H C b Pc As)
    (hg : g.method = m) (hn : As.length = n) (hsize : g.locals.size = nL) (hstack : g.stack = As.reverse ++ .ref b :: rest) (hW : 2 * g.monitorRoom + (rest.map fun v => v.category).sum ≤ 8) (hdg : decode cc g.pc = .ok (.invokevirtual index, 3)) (hf : cells + mc ≤ R.cells ∧ slots + ms ≤ R.slots) :
    va_Run p l e R s m args below meth c H locs cells slots mc ms g rest (Qc (Value.ref b :: As).toArray) free := by
  obtain ⟨⟨hrc, hrs, hfr, hlo, hws, hcw⟩, hcode, hini, hy, hlen, hl, hin, hse⟩ := cw
  have hK : Back l R p e below s args y 3 8 (PreOf R mc ms Pc) (PostOf Qc mc ms free) := va_backW (hh := hh) (bytes := bytes) (maxL := maxL) (ret := ret) hM hp.1 hrc hrs hfr hlo hws hcw (fun a' U hW => word_at hW (Or.inl (by first | rfl | simp [Cond.onTables, Cond.keeps, Cond.steady])) hini)
  obtain ⟨hx, hb, hml, ho, -⟩ := S
  obtain ⟨-, ⟨cellB, hcB, hoB, hclB⟩, hPc⟩ := hp
  intro T hT X
  obtain ⟨v, vm₁, ⟨U', l2, c2, s2⟩, hW₁, X', ⟨g', mk, t, L, e1, e2, hq, h1, hL, h2, h3⟩, st⟩ := vx_callVW X hx (C := C) (hh := hh) (bytes := bytes) (maxL := maxL) (ret := ret) ho hl hin hse hcode hy hK (by rw [hT]; exact hcB) hoB hclB hg (hsize.trans hml.symm) (argsL := As) (rest := rest) (fun sig h => hn.trans (hlen sig h)) hstack hW (by rw [hb]; exact hdg)
    (fun vm₁ hW₁ => ⟨hf.1, hf.2, hPc (T.setVm vm₁) hT hW₁⟩)
  dsimp only [Pt.U, Pt.locs, Pt.cells, Pt.slots] at X' e1 e2 h1 h2 h3 st
  subst h1; subst h2; subst h3
  exact ⟨v, (T.setVm vm₁).calling g' mk (Value.ref b :: As).toArray, t, U', L, hT, X', hL, e1, e2, hq, st⟩
section
variable {y : MethodName} {bytes cc : ByteArray} {maxL nL mc ms n index : Nat} {ret : Option FieldType} {ws : List Cond} {rm : Room} {Pc : Array Value → State → Prop} {Qc : Array Value → State → Outcome → State → Prop} {XC : String → State → State → Prop} {free : Addr → Prop} {Ts : List Cond} {own C : String} {b : Addr} {As rest : List Value} {g : JFrame}
theorem vx_runVX {hh : List (Nat × Nat × Nat × Nat)} (S : CallFix p m c cc nL s args Ts own) (hM : vx_Met l y ws rm Pc Qc XC mc ms free) (cw : vx_CVW R s args own C index y bytes maxL ret hh ws rm mc ms n) (hp : PreV s H C b Pc As)
    (hg : g.method = m) (hn : As.length = n) (hsize : g.locals.size = nL) (hstack : g.stack = As.reverse ++ .ref b :: rest) (hW : 2 * g.monitorRoom + (rest.map fun v => v.category).sum ≤ 8) (hdg : decode cc g.pc = .ok (.invokevirtual index, 3)) (hf : cells + mc ≤ R.cells ∧ slots + ms ≤ R.slots) :
    vx_Run p l e R s m args below meth c H locs cells slots mc ms g rest (Qc (Value.ref b :: As).toArray) XC free := by
  obtain ⟨⟨hrc, hrs, hfr, hlo, hws, hcw⟩, hcode, hini, hy, hlen, hl, hin, hse⟩ := cw
  have hK : vx_Back l R p e below s args y 3 8 (PreOf R mc ms Pc) (PostOf Qc mc ms free) (vx_Post XC mc ms free) := vx_backW (hh := hh) (bytes := bytes) (maxL := maxL) (ret := ret) hM hp.1 hrc hrs hfr hlo hws hcw (fun a' U hW => word_at hW (Or.inl (by first | rfl | simp [Cond.onTables, Cond.keeps, Cond.steady])) hini)
  obtain ⟨hx, hb, hml, ho, -⟩ := S
  obtain ⟨-, ⟨cellB, hcB, hoB, hclB⟩, hPc⟩ := hp
  intro T hT X
  rcases vx_callVX X hx (C := C) (hh := hh) (bytes := bytes) (maxL := maxL) (ret := ret) ho hl hin hse hcode hy hK (by rw [hT]; exact hcB) hoB hclB hg (hsize.trans hml.symm) (argsL := As) (rest := rest) (fun sig h => hn.trans (hlen sig h)) hstack hW (by rw [hb]; exact hdg)
    (fun vm₁ hW₁ => ⟨hf.1, hf.2, hPc (T.setVm vm₁) hT hW₁⟩) with ⟨v, vm₁, ⟨U', l2, c2, s2⟩, hW₁, X', ⟨g', mk, t, L, e1, e2, hq, h1, hL, h2, h3⟩, st⟩ | ⟨q, vm₁, ⟨U', l2, c2, s2⟩, hW₁, X', ⟨g', mk, t, L, E, ce, e1, e2, hq, hce, hcv, hcl, h1, hL, h2, h3⟩, st⟩
  · dsimp only [Pt.U, Pt.locs, Pt.cells, Pt.slots] at X' e1 e2 h1 h2 h3 st
    subst h1; subst h2; subst h3
    exact Or.inl ⟨v, (T.setVm vm₁).calling g' mk (Value.ref b :: As).toArray, t, U', L, hT, X', hL, e1, e2, hq, st⟩
  · dsimp only [Pt.U, Pt.locs, Pt.cells, Pt.slots] at X' e1 e2 h1 h2 h3 st hcl
    subst h1; subst h2; subst h3
    exact Or.inr ⟨q, (T.setVm vm₁).calling g' mk (Value.ref b :: As).toArray, t, U', L, E, ce, hT, X', hL, e1, e2, hq, hce, hcv, vx_cls hW₁ hcl, st⟩
theorem vx_runSX {hh : List (Nat × Nat × Nat × Nat)} (S : CallFix p m c cc nL s args Ts own) (hM : vx_Met l y ws rm Pc Qc XC mc ms free) (cw : vx_CSW R s args own index y bytes maxL ret hh ws rm mc ms n) (hp : PreS s H Pc As)
    (hg : g.method = m) (hn : As.length = n) (hsize : g.locals.size = nL) (hstack : g.stack = As.reverse ++ rest) (hW : 2 * g.monitorRoom + (rest.map fun v => v.category).sum ≤ 8) (hdg : decode cc g.pc = .ok (.invokestatic index, 3)) (hf : cells + mc ≤ R.cells ∧ slots + ms ≤ R.slots) :
    vx_Run p l e R s m args below meth c H locs cells slots mc ms g rest (Qc As.toArray) XC free := by
  obtain ⟨⟨hrc, hrs, hfr, hlo, hws, hcw⟩, hcode, hini, hy, hlen, hl, hstt⟩ := cw
  have hK : vx_Back l R p e below s args y 3 8 (PreOf R mc ms Pc) (PostOf Qc mc ms free) (vx_Post XC mc ms free) := vx_backW (hh := hh) (bytes := bytes) (maxL := maxL) (ret := ret) hM hp.1 hrc hrs hfr hlo hws hcw (fun a' U hW => word_at hW (Or.inl (by first | rfl | simp [Cond.onTables, Cond.keeps, Cond.steady])) hini)
  obtain ⟨hx, hb, hml, ho, -⟩ := S
  intro T hT X
  rcases vx_callSX X hx (hh := hh) (bytes := bytes) (maxL := maxL) (ret := ret) ho hl hstt hini hcode hy hK hg (hsize.trans hml.symm) (argsL := As) (rest := rest) (fun sig h => hn.trans (hlen sig h)) hstack hW (by rw [hb]; exact hdg)
    (fun vm₁ hW₁ => ⟨hf.1, hf.2, hp.2 (T.setVm vm₁) hT hW₁⟩) with ⟨v, vm₁, ⟨U', l2, c2, s2⟩, hW₁, X', ⟨g', mk, t, L, e1, e2, hq, h1, hL, h2, h3⟩, st⟩ | ⟨q, vm₁, ⟨U', l2, c2, s2⟩, hW₁, X', ⟨g', mk, t, L, E, ce, e1, e2, hq, hce, hcv, hcl, h1, hL, h2, h3⟩, st⟩
  · dsimp only [Pt.U, Pt.locs, Pt.cells, Pt.slots] at X' e1 e2 h1 h2 h3 st
    subst h1; subst h2; subst h3
    exact Or.inl ⟨v, (T.setVm vm₁).calling g' mk As.toArray, t, U', L, hT, X', hL, e1, e2, hq, st⟩
  · dsimp only [Pt.U, Pt.locs, Pt.cells, Pt.slots] at X' e1 e2 h1 h2 h3 st hcl
    subst h1; subst h2; subst h3
    exact Or.inr ⟨q, (T.setVm vm₁).calling g' mk As.toArray, t, U', L, E, ce, hT, X', hL, e1, e2, hq, hce, hcv, vx_cls hW₁ hcl, st⟩
end
end VXH
theorem vx_ofWH {l : Launch} {y : MethodName} {ws ws' : List Cond} {rm : Room} {Pc : Array Value → State → Prop} {Qc : Array Value → State → Outcome → State → Prop} {XC : String → State → State → Prop} {mc ms : Nat} {free : Addr → Prop} {cc : ByteArray} {maxL : Nat} {ret : Option FieldType} {hh : List (Nat × Nat × Nat × Nat)}
    (hy : plainName y.cls = true) (hw : ws = Cond.codeWith y cc maxL ret hh :: ws')
    (body : ∀ p e s m args below meth c s₁, BodyLoose p l y (headSpec ws rm) cc maxL ret e s m args below meth c s₁ → c.maxLocals = maxL → Pc args s →
      W p l e (headSpec ws rm).room s m args below meth c s.heap [] 0 0 (vx_MQ below Qc XC args s mc ms free) (entryFrame m args maxL)) : vx_Met l y ws rm Pc Qc XC mc ms free := by
  refine MetFree.of_bodyS (code := cc) (maxLocals := maxL) (ret := ret) hy ?_ ?_
  · intro args s m h hn
    obtain ⟨m9, meth, c, hn9, h1, h2, h3, h4, -, h5, h6, -⟩ := Cond.codeWith_spec (atoms_spec (ws := ws) h _ (by rw [hw]; exact List.mem_cons_self))
    cases hn.symm.trans hn9
    exact ⟨meth, c, h1, h2, h3, h4, h5, h6⟩
  · intro p e s m args below meth c s₁ B hml hP _
    have hh0 : s₁.heap = s.heap := by rw [B.state]; rfl
    obtain ⟨t, a1, o, b1, b2, b3⟩ := body p e s m args below meth c s₁ B hml hP s₁ hh0 (Stand.of_body B)
    exact ⟨t, o, a1, b1, b2, b3⟩
/-! ===== END ===== -/
end
section
/-! THE WORDS of the tables that every call keeps, one row each; the nest mates' words; the statics. -/
def gw : List Cond := lw_tbl.filter goodWord
theorem gw_in {w : Cond} {i : Nat} (h : lw_tbl[i]? = some w) (g : goodWord w = true) : w ∈ gw := List.mem_filter.mpr ⟨List.mem_of_getElem? h, g⟩
theorem gw_good : ∀ w ∈ gw, (w.onTables && w.keeps) = true ∨ ∃ ty, w = .arrayClass ty := fun w h => good_of_word (List.mem_filter.mp h).2
theorem gw_tbl : ∀ w ∈ gw, w ∈ lw_tbl := fun w h => (List.mem_filter.mp h).1
/-- the words of a method: its own code, then all -/
abbrev wsM (y : MethodName) (cc : ByteArray) (n : Nat) (ret : Option FieldType) : List Cond := .code y cc n ret :: gw
theorem gw_wsM {y : MethodName} {cc : ByteArray} {n : Nat} {ret : Option FieldType} (h : Cond.code y cc n ret ∈ gw) : GoodIn gw (wsM y cc n ret) := fun w hw => by
  rcases List.mem_cons.mp hw with rfl | hw
  · exact ⟨h, gw_good _ h⟩
  · exact ⟨hw, gw_good _ hw⟩
set_option maxRecDepth 100000 in
theorem inX1 : ∀ w ∈ u_ws RX1 TX1 7, w ∈ gw := by decide +kernel
set_option maxRecDepth 100000 in
theorem inX2 : ∀ w ∈ u_ws RX2 TX2 4, w ∈ gw := by decide +kernel
set_option maxRecDepth 100000 in
theorem inX3 : ∀ w ∈ u_ws RX3 TX3 6, w ∈ gw := by decide +kernel
set_option maxRecDepth 100000 in
theorem inX5 : ∀ w ∈ u_ws RX5 TX5 3, w ∈ gw := by decide +kernel
set_option maxRecDepth 100000 in
theorem inX6 : ∀ w ∈ u_ws RX6 TX6 14, w ∈ gw := by decide +kernel
set_option maxRecDepth 100000 in
theorem inX7 : ∀ w ∈ u_ws RX7 TX7 9, w ∈ gw := by decide +kernel
set_option maxRecDepth 100000 in
theorem inX8 : ∀ w ∈ u_ws RX8 TX8 18, w ∈ gw := by decide +kernel
set_option maxRecDepth 100000 in
theorem inX9 : ∀ w ∈ u_ws RX9 TX9 22, w ∈ gw := by decide +kernel
set_option maxRecDepth 100000 in
theorem inJx4a65c : ∀ w ∈ u_ws RJx4a65c TJx4a65c 3, w ∈ gw := by decide +kernel
theorem w_in_L : Cond.initialized RL ∈ gw := gw_in (i := 76) (by decide +kernel) (by decide +kernel)
theorem w_in_X7 : Cond.initialized RX7 ∈ gw := gw_in (i := 77) (by decide +kernel) (by decide +kernel)
theorem w_in_Jxa1e45 : Cond.initialized RJxa1e45 ∈ gw := gw_in (i := 78) (by decide +kernel) (by decide +kernel)
theorem w_in_Jxc12de : Cond.initialized RJxc12de ∈ gw := gw_in (i := 79) (by decide +kernel) (by decide +kernel)
theorem w_in_Jx4a65c : Cond.initialized RJx4a65c ∈ gw := gw_in (i := 80) (by decide +kernel) (by decide +kernel)
theorem w_in_X1 : Cond.initialized RX1 ∈ gw := gw_in (i := 81) (by decide +kernel) (by decide +kernel)
theorem w_in_X5 : Cond.initialized RX5 ∈ gw := gw_in (i := 82) (by decide +kernel) (by decide +kernel)
theorem w_in_X6 : Cond.initialized RX6 ∈ gw := gw_in (i := 83) (by decide +kernel) (by decide +kernel)
theorem w_in_X3 : Cond.initialized RX3 ∈ gw := gw_in (i := 84) (by decide +kernel) (by decide +kernel)
theorem w_in_J8 : Cond.initialized RJ8 ∈ gw := gw_in (i := 85) (by decide +kernel) (by decide +kernel)
theorem w_in_J9 : Cond.initialized RJ9 ∈ gw := gw_in (i := 86) (by decide +kernel) (by decide +kernel)
theorem w_in_J7 : Cond.initialized RJ7 ∈ gw := gw_in (i := 87) (by decide +kernel) (by decide +kernel)
theorem w_in_J10 : Cond.initialized RJ10 ∈ gw := gw_in (i := 88) (by decide +kernel) (by decide +kernel)
theorem w_in_X9 : Cond.initialized RX9 ∈ gw := gw_in (i := 89) (by decide +kernel) (by decide +kernel)
theorem w_in_X8 : Cond.initialized RX8 ∈ gw := gw_in (i := 90) (by decide +kernel) (by decide +kernel)
theorem w_in_java_lang_Throwable : Cond.initialized "java/lang/Throwable" ∈ gw := gw_in (i := 91) (by decide +kernel) (by decide +kernel)
theorem w_in_java_lang_Exception : Cond.initialized "java/lang/Exception" ∈ gw := gw_in (i := 92) (by decide +kernel) (by decide +kernel)
theorem w_in_java_lang_RuntimeException : Cond.initialized "java/lang/RuntimeException" ∈ gw := gw_in (i := 93) (by decide +kernel) (by decide +kernel)
theorem w_in_java_lang_IllegalStateException : Cond.initialized "java/lang/IllegalStateException" ∈ gw := gw_in (i := 94) (by decide +kernel) (by decide +kernel)
theorem w_in_X2 : Cond.initialized RX2 ∈ gw := gw_in (i := 95) (by decide +kernel) (by decide +kernel)
theorem w_in_java_util_NoSuchElementException : Cond.initialized "java/util/NoSuchElementException" ∈ gw := gw_in (i := 96) (by decide +kernel) (by decide +kernel)
theorem w_in_java_lang_IllegalArgumentException : Cond.initialized "java/lang/IllegalArgumentException" ∈ gw := gw_in (i := 97) (by decide +kernel) (by decide +kernel)
theorem w_in_J15 : Cond.initialized RJ15 ∈ gw := gw_in (i := 98) (by decide +kernel) (by decide +kernel)
theorem w_in_J3 : Cond.initialized RJ3 ∈ gw := gw_in (i := 99) (by decide +kernel) (by decide +kernel)
theorem w_in_Jx29ce0 : Cond.initialized RJx29ce0 ∈ gw := gw_in (i := 100) (by decide +kernel) (by decide +kernel)
theorem w_in_X4 : Cond.initialized RX4 ∈ gw := gw_in (i := 101) (by decide +kernel) (by decide +kernel)
theorem w_in_J0 : Cond.initialized RJ0 ∈ gw := gw_in (i := 102) (by decide +kernel) (by decide +kernel)
theorem w_in_J1 : Cond.initialized RJ1 ∈ gw := gw_in (i := 103) (by decide +kernel) (by decide +kernel)
theorem w_in_J2 : Cond.initialized RJ2 ∈ gw := gw_in (i := 104) (by decide +kernel) (by decide +kernel)
theorem w_in_X0 : Cond.initialized RX0 ∈ gw := gw_in (i := 105) (by decide +kernel) (by decide +kernel)
theorem w_in_java_lang_IndexOutOfBoundsException : Cond.initialized "java/lang/IndexOutOfBoundsException" ∈ gw := gw_in (i := 106) (by decide +kernel) (by decide +kernel)
theorem w_cl_L_8 : Cond.classLink RL 8 RX7 ∈ gw := gw_in (i := 107) (by decide +kernel) (by decide +kernel)
theorem w_is_X7 : Cond.instantiable RX7 9 ∈ gw := gw_in (i := 108) (by decide +kernel) (by decide +kernel)
theorem w_ml_L_46 : Cond.methodLink RL 46 yX7_init ∈ gw := gw_in (i := 109) (by decide +kernel) (by decide +kernel)
theorem w_im_X7_init : Cond.instanceMethod yX7_init ∈ gw := gw_in (i := 110) (by decide +kernel) (by decide +kernel)
theorem w_co_X7_init : Cond.code yX7_init cX7_init 1 none ∈ gw := gw_in (i := 111) (by decide +kernel) (by decide +kernel)
theorem w_ml_X7_1 : Cond.methodLink RX7 1 objectInit ∈ gw := gw_in (i := 112) (by decide +kernel) (by decide +kernel)
theorem w_im_Object__init_ : Cond.instanceMethod objectInit ∈ gw := gw_in (i := 113) (by decide +kernel) (by decide +kernel)
theorem w_co_Object__init_ : Cond.code objectInit object_method_1_code 1 none ∈ gw := gw_in (i := 114) (by decide +kernel) (by decide +kernel)
theorem w_cl_X7_7 : Cond.classLink RX7 7 RJx4a65c ∈ gw := gw_in (i := 115) (by decide +kernel) (by decide +kernel)
theorem w_is_Jx4a65c : Cond.instantiable RJx4a65c 3 ∈ gw := gw_in (i := 116) (by decide +kernel) (by decide +kernel)
theorem w_ml_X7_9 : Cond.methodLink RX7 9 yJx4a65c_init_da8c8 ∈ gw := gw_in (i := 117) (by decide +kernel) (by decide +kernel)
theorem w_im_Jx4a65c_init_da8c8 : Cond.instanceMethod yJx4a65c_init_da8c8 ∈ gw := gw_in (i := 118) (by decide +kernel) (by decide +kernel)
theorem w_co_Jx4a65c_init_da8c8 : Cond.code yJx4a65c_init_da8c8 cJx4a65c_init_da8c8 1 none ∈ gw := gw_in (i := 119) (by decide +kernel) (by decide +kernel)
theorem w_ml_Jx4a65c_1 : Cond.methodLink RJx4a65c 1 yJxc12de_init_da8c8 ∈ gw := gw_in (i := 120) (by decide +kernel) (by decide +kernel)
theorem w_im_Jxc12de_init_da8c8 : Cond.instanceMethod yJxc12de_init_da8c8 ∈ gw := gw_in (i := 121) (by decide +kernel) (by decide +kernel)
theorem w_co_Jxc12de_init_da8c8 : Cond.code yJxc12de_init_da8c8 cJxc12de_init_da8c8 1 none ∈ gw := gw_in (i := 122) (by decide +kernel) (by decide +kernel)
theorem w_ml_Jxc12de_1 : Cond.methodLink RJxc12de 1 yJxa1e45_init_da8c8 ∈ gw := gw_in (i := 123) (by decide +kernel) (by decide +kernel)
theorem w_im_Jxa1e45_init_da8c8 : Cond.instanceMethod yJxa1e45_init_da8c8 ∈ gw := gw_in (i := 124) (by decide +kernel) (by decide +kernel)
theorem w_co_Jxa1e45_init_da8c8 : Cond.code yJxa1e45_init_da8c8 cJxa1e45_init_da8c8 1 none ∈ gw := gw_in (i := 125) (by decide +kernel) (by decide +kernel)
theorem w_ml_Jxa1e45_1 : Cond.methodLink RJxa1e45 1 objectInit ∈ gw := gw_in (i := 126) (by decide +kernel) (by decide +kernel)
theorem w_fl_Jx4a65c_39 : Cond.fieldLink RJx4a65c 39 "java/util/ArrayList" "DEFAULTCAPACITY_EMPTY_ELEMENTDATA" "[Ljava/lang/Object;" ∈ gw := gw_in (i := 127) (by decide +kernel) (by decide +kernel)
theorem w_fl_Jx4a65c_9 : Cond.fieldLink RJx4a65c 9 "java/util/ArrayList" "elementData" "[Ljava/lang/Object;" ∈ gw := gw_in (i := 129) (by decide +kernel) (by decide +kernel)
theorem w_fl_Jx4a65c_48 : Cond.fieldLink RJx4a65c 48 "java/util/ArrayList" "size" "I" ∈ gw := gw_in (i := 130) (by decide +kernel) (by decide +kernel)
theorem w_fl_Jxc12de_7 : Cond.fieldLink RJxc12de 7 "java/util/AbstractList" "modCount" "I" ∈ gw := gw_in (i := 131) (by decide +kernel) (by decide +kernel)
theorem w_fl_Jx4a65c_63 : Cond.fieldLink RJx4a65c 63 "java/util/ArrayList" "modCount" "I" ∈ gw := gw_in (i := 132) (by decide +kernel) (by decide +kernel)
theorem w_sf_57 : Cond.sameField "java/util/ArrayList" "java/util/AbstractList" "modCount" "I" ∈ gw := gw_in (i := 133) (by decide +kernel) (by decide +kernel)
theorem w_cl_X7_23 : Cond.classLink RX7 23 RX1 ∈ gw := gw_in (i := 141) (by decide +kernel) (by decide +kernel)
theorem w_is_X1 : Cond.instantiable RX1 7 ∈ gw := gw_in (i := 142) (by decide +kernel) (by decide +kernel)
theorem w_im_X1_init : Cond.instanceMethod yX1_init ∈ gw := gw_in (i := 144) (by decide +kernel) (by decide +kernel)
theorem w_co_X1_init : Cond.code yX1_init cX1_init 1 none ∈ gw := gw_in (i := 145) (by decide +kernel) (by decide +kernel)
theorem w_ml_X1_3 : Cond.methodLink RX1 3 objectInit ∈ gw := gw_in (i := 146) (by decide +kernel) (by decide +kernel)
theorem w_fl_X1_9 : Cond.fieldLink RX1 9 "AtomicRuntime$Heap" "sorts" "[I" ∈ gw := gw_in (i := 147) (by decide +kernel) (by decide +kernel)
theorem w_fl_X1_15 : Cond.fieldLink RX1 15 "AtomicRuntime$Heap" "firsts" "[J" ∈ gw := gw_in (i := 149) (by decide +kernel) (by decide +kernel)
theorem w_fl_X1_19 : Cond.fieldLink RX1 19 "AtomicRuntime$Heap" "seconds" "[J" ∈ gw := gw_in (i := 151) (by decide +kernel) (by decide +kernel)
theorem w_fl_X1_22 : Cond.fieldLink RX1 22 "AtomicRuntime$Heap" "reached" "[I" ∈ gw := gw_in (i := 154) (by decide +kernel) (by decide +kernel)
theorem w_fl_X1_25 : Cond.fieldLink RX1 25 "AtomicRuntime$Heap" "targets" "[I" ∈ gw := gw_in (i := 155) (by decide +kernel) (by decide +kernel)
theorem w_fl_X1_28 : Cond.fieldLink RX1 28 "AtomicRuntime$Heap" "used" "I" ∈ gw := gw_in (i := 156) (by decide +kernel) (by decide +kernel)
theorem w_fl_X1_32 : Cond.fieldLink RX1 32 "AtomicRuntime$Heap" "reachedCount" "I" ∈ gw := gw_in (i := 158) (by decide +kernel) (by decide +kernel)
theorem w_ac_long : Cond.arrayClass .long ∈ gw := gw_in (i := 174) (by decide +kernel) (by decide +kernel)
theorem w_ac_int : Cond.arrayClass .int ∈ gw := gw_in (i := 175) (by decide +kernel) (by decide +kernel)
theorem w_cl_X7_30 : Cond.classLink RX7 30 RX5 ∈ gw := gw_in (i := 176) (by decide +kernel) (by decide +kernel)
theorem w_is_X5 : Cond.instantiable RX5 3 ∈ gw := gw_in (i := 177) (by decide +kernel) (by decide +kernel)
theorem w_im_X5_init : Cond.instanceMethod yX5_init ∈ gw := gw_in (i := 179) (by decide +kernel) (by decide +kernel)
theorem w_co_X5_init : Cond.code yX5_init cX5_init 1 none ∈ gw := gw_in (i := 180) (by decide +kernel) (by decide +kernel)
theorem w_ml_X5_3 : Cond.methodLink RX5 3 objectInit ∈ gw := gw_in (i := 181) (by decide +kernel) (by decide +kernel)
theorem w_fl_X5_9 : Cond.fieldLink RX5 9 "AtomicRuntime$Printout" "numbers" "[I" ∈ gw := gw_in (i := 182) (by decide +kernel) (by decide +kernel)
theorem w_fl_X5_15 : Cond.fieldLink RX5 15 "AtomicRuntime$Printout" "oldest" "I" ∈ gw := gw_in (i := 183) (by decide +kernel) (by decide +kernel)
theorem w_fl_X5_19 : Cond.fieldLink RX5 19 "AtomicRuntime$Printout" "kept" "I" ∈ gw := gw_in (i := 184) (by decide +kernel) (by decide +kernel)
theorem w_cl_X7_50 : Cond.classLink RX7 50 RX6 ∈ gw := gw_in (i := 193) (by decide +kernel) (by decide +kernel)
theorem w_is_X6 : Cond.instantiable RX6 14 ∈ gw := gw_in (i := 194) (by decide +kernel) (by decide +kernel)
theorem w_im_X6_init : Cond.instanceMethod yX6_init ∈ gw := gw_in (i := 196) (by decide +kernel) (by decide +kernel)
theorem w_co_X6_init : Cond.code yX6_init cX6_init 2 none ∈ gw := gw_in (i := 197) (by decide +kernel) (by decide +kernel)
theorem w_ml_X6_3 : Cond.methodLink RX6 3 objectInit ∈ gw := gw_in (i := 198) (by decide +kernel) (by decide +kernel)
theorem w_cl_X6_34 : Cond.classLink RX6 34 RX3 ∈ gw := gw_in (i := 199) (by decide +kernel) (by decide +kernel)
theorem w_is_X3 : Cond.instantiable RX3 6 ∈ gw := gw_in (i := 200) (by decide +kernel) (by decide +kernel)
theorem w_im_X3_init : Cond.instanceMethod yX3_init ∈ gw := gw_in (i := 202) (by decide +kernel) (by decide +kernel)
theorem w_co_X3_init : Cond.code yX3_init cX3_init 1 none ∈ gw := gw_in (i := 203) (by decide +kernel) (by decide +kernel)
theorem w_ml_X3_3 : Cond.methodLink RX3 3 objectInit ∈ gw := gw_in (i := 204) (by decide +kernel) (by decide +kernel)
theorem w_fl_X3_9 : Cond.fieldLink RX3 9 "AtomicRuntime$Log" "readPlaces" "[I" ∈ gw := gw_in (i := 205) (by decide +kernel) (by decide +kernel)
theorem w_fl_X3_15 : Cond.fieldLink RX3 15 "AtomicRuntime$Log" "writePlaces" "[I" ∈ gw := gw_in (i := 207) (by decide +kernel) (by decide +kernel)
theorem w_fl_X3_18 : Cond.fieldLink RX3 18 "AtomicRuntime$Log" "writeValues" "[J" ∈ gw := gw_in (i := 209) (by decide +kernel) (by decide +kernel)
theorem w_fl_X3_22 : Cond.fieldLink RX3 22 "AtomicRuntime$Log" "reads" "I" ∈ gw := gw_in (i := 211) (by decide +kernel) (by decide +kernel)
theorem w_fl_X3_26 : Cond.fieldLink RX3 26 "AtomicRuntime$Log" "writes" "I" ∈ gw := gw_in (i := 213) (by decide +kernel) (by decide +kernel)
theorem w_fl_X3_29 : Cond.fieldLink RX3 29 "AtomicRuntime$Log" "start" "I" ∈ gw := gw_in (i := 216) (by decide +kernel) (by decide +kernel)
theorem w_fl_X6_9 : Cond.fieldLink RX6 9 "AtomicRuntime$Strand" "registers" "[J" ∈ gw := gw_in (i := 231) (by decide +kernel) (by decide +kernel)
theorem w_fl_X6_15 : Cond.fieldLink RX6 15 "AtomicRuntime$Strand" "returns" "[I" ∈ gw := gw_in (i := 233) (by decide +kernel) (by decide +kernel)
theorem w_fl_X6_19 : Cond.fieldLink RX6 19 "AtomicRuntime$Strand" "nestSorts" "[I" ∈ gw := gw_in (i := 234) (by decide +kernel) (by decide +kernel)
theorem w_fl_X6_22 : Cond.fieldLink RX6 22 "AtomicRuntime$Strand" "nestAlts" "[I" ∈ gw := gw_in (i := 236) (by decide +kernel) (by decide +kernel)
theorem w_fl_X6_25 : Cond.fieldLink RX6 25 "AtomicRuntime$Strand" "nestCalls" "[I" ∈ gw := gw_in (i := 237) (by decide +kernel) (by decide +kernel)
theorem w_fl_X6_28 : Cond.fieldLink RX6 28 "AtomicRuntime$Strand" "nestWrites" "[I" ∈ gw := gw_in (i := 238) (by decide +kernel) (by decide +kernel)
theorem w_fl_X6_31 : Cond.fieldLink RX6 31 "AtomicRuntime$Strand" "nestRegisters" "[J" ∈ gw := gw_in (i := 239) (by decide +kernel) (by decide +kernel)
theorem w_fl_X6_37 : Cond.fieldLink RX6 37 "AtomicRuntime$Strand" "log" "LAtomicRuntime$Log;" ∈ gw := gw_in (i := 241) (by decide +kernel) (by decide +kernel)
theorem w_fl_X6_41 : Cond.fieldLink RX6 41 "AtomicRuntime$Strand" "state" "I" ∈ gw := gw_in (i := 243) (by decide +kernel) (by decide +kernel)
theorem w_fl_X6_45 : Cond.fieldLink RX6 45 "AtomicRuntime$Strand" "code" "I" ∈ gw := gw_in (i := 245) (by decide +kernel) (by decide +kernel)
theorem w_fl_X6_57 : Cond.fieldLink RX6 57 "AtomicRuntime$Strand" "pc" "I" ∈ gw := gw_in (i := 247) (by decide +kernel) (by decide +kernel)
theorem w_fl_X6_48 : Cond.fieldLink RX6 48 "AtomicRuntime$Strand" "calls" "I" ∈ gw := gw_in (i := 249) (by decide +kernel) (by decide +kernel)
theorem w_fl_X6_51 : Cond.fieldLink RX6 51 "AtomicRuntime$Strand" "nests" "I" ∈ gw := gw_in (i := 251) (by decide +kernel) (by decide +kernel)
theorem w_fl_X6_54 : Cond.fieldLink RX6 54 "AtomicRuntime$Strand" "atomic" "I" ∈ gw := gw_in (i := 253) (by decide +kernel) (by decide +kernel)
theorem w_ml_X7_55 : Cond.methodLink RX7 55 yJx4a65c_add_9ea2d ∈ gw := gw_in (i := 284) (by decide +kernel) (by decide +kernel)
theorem w_im_Jx4a65c_add_9ea2d : Cond.instanceMethod yJx4a65c_add_9ea2d ∈ gw := gw_in (i := 285) (by decide +kernel) (by decide +kernel)
theorem w_se_Jx4a65c_Jx4a65c_add_9ea2d : Cond.selects RJx4a65c yJx4a65c_add_9ea2d yJx4a65c_add_9ea2d ∈ gw := gw_in (i := 286) (by decide +kernel) (by decide +kernel)
theorem w_co_Jx4a65c_add_9ea2d : Cond.code yJx4a65c_add_9ea2d cJx4a65c_add_9ea2d 2 (some FieldType.boolean) ∈ gw := gw_in (i := 287) (by decide +kernel) (by decide +kernel)
theorem w_ml_Jx4a65c_131 : Cond.methodLink RJx4a65c 131 yJx4a65c_add_72be8 ∈ gw := gw_in (i := 288) (by decide +kernel) (by decide +kernel)
theorem w_im_Jx4a65c_add_72be8 : Cond.instanceMethod yJx4a65c_add_72be8 ∈ gw := gw_in (i := 290) (by decide +kernel) (by decide +kernel)
theorem w_co_Jx4a65c_add_72be8 : Cond.code yJx4a65c_add_72be8 cJx4a65c_add_72be8 4 none ∈ gw := gw_in (i := 291) (by decide +kernel) (by decide +kernel)
theorem w_ml_Jx4a65c_129 : Cond.methodLink RJx4a65c 129 yJx4a65c_grow_d5877 ∈ gw := gw_in (i := 292) (by decide +kernel) (by decide +kernel)
theorem w_im_Jx4a65c_grow_d5877 : Cond.instanceMethod yJx4a65c_grow_d5877 ∈ gw := gw_in (i := 294) (by decide +kernel) (by decide +kernel)
theorem w_co_Jx4a65c_grow_d5877 : Cond.code yJx4a65c_grow_d5877 cJx4a65c_grow_d5877 1 (some (FieldType.array (FieldType.object "java/lang/Object"))) ∈ gw := gw_in (i := 295) (by decide +kernel) (by decide +kernel)
theorem w_ml_Jx4a65c_69 : Cond.methodLink RJx4a65c 69 yJx4a65c_grow_92f84 ∈ gw := gw_in (i := 296) (by decide +kernel) (by decide +kernel)
theorem w_im_Jx4a65c_grow_92f84 : Cond.instanceMethod yJx4a65c_grow_92f84 ∈ gw := gw_in (i := 298) (by decide +kernel) (by decide +kernel)
theorem w_co_Jx4a65c_grow_92f84 : Cond.code yJx4a65c_grow_92f84 cJx4a65c_grow_92f84 4 (some (FieldType.array (FieldType.object "java/lang/Object"))) ∈ gw := gw_in (i := 299) (by decide +kernel) (by decide +kernel)
theorem w_ml_Jx4a65c_73 : Cond.methodLink RJx4a65c 73 yJ8_newLength_cabcc ∈ gw := gw_in (i := 300) (by decide +kernel) (by decide +kernel)
theorem w_st_J8_newLength_cabcc : Cond.static yJ8_newLength_cabcc ∈ gw := gw_in (i := 301) (by decide +kernel) (by decide +kernel)
theorem w_co_J8_newLength_cabcc : Cond.code yJ8_newLength_cabcc cJ8_newLength_cabcc 4 (some FieldType.int) ∈ gw := gw_in (i := 302) (by decide +kernel) (by decide +kernel)
theorem w_ml_J8_194 : Cond.methodLink RJ8 194 yJ9_max_7cf53 ∈ gw := gw_in (i := 303) (by decide +kernel) (by decide +kernel)
theorem w_st_J9_max_7cf53 : Cond.static yJ9_max_7cf53 ∈ gw := gw_in (i := 304) (by decide +kernel) (by decide +kernel)
theorem w_co_J9_max_7cf53 : Cond.code yJ9_max_7cf53 cJ9_max_7cf53 2 (some FieldType.int) ∈ gw := gw_in (i := 305) (by decide +kernel) (by decide +kernel)
theorem w_ki_J8_200 : Cond.constant RJ8 200 (2147483639) ∈ gw := gw_in (i := 306) (by decide +kernel) (by decide +kernel)
theorem w_ml_J8_201 : Cond.methodLink RJ8 201 yJ8_hugeLength_7cf53 ∈ gw := gw_in (i := 307) (by decide +kernel) (by decide +kernel)
theorem w_st_J8_hugeLength_7cf53 : Cond.static yJ8_hugeLength_7cf53 ∈ gw := gw_in (i := 308) (by decide +kernel) (by decide +kernel)
theorem w_co_J8_hugeLength_7cf53 : Cond.code yJ8_hugeLength_7cf53 cJ8_hugeLength_7cf53 3 (some FieldType.int) ∈ gw := gw_in (i := 309) (by decide +kernel) (by decide +kernel)
theorem w_ml_Jx4a65c_66 : Cond.methodLink RJx4a65c 66 yJ7_copyOf_1904c ∈ gw := gw_in (i := 310) (by decide +kernel) (by decide +kernel)
theorem w_st_J7_copyOf_1904c : Cond.static yJ7_copyOf_1904c ∈ gw := gw_in (i := 311) (by decide +kernel) (by decide +kernel)
theorem w_co_J7_copyOf_1904c : Cond.code yJ7_copyOf_1904c cJ7_copyOf_1904c 2 (some (FieldType.array (FieldType.object "java/lang/Object"))) ∈ gw := gw_in (i := 312) (by decide +kernel) (by decide +kernel)
theorem w_ml_J7_86 : Cond.methodLink RJ7 86 (⟨"java/lang/Object", "getClass", "()Ljava/lang/Class;"⟩ : MethodName) ∈ gw := gw_in (i := 313) (by decide +kernel) (by decide +kernel)
theorem w_im_Object_getClass_651 : Cond.instanceMethod (⟨"java/lang/Object", "getClass", "()Ljava/lang/Class;"⟩ : MethodName) ∈ gw := gw_in (i := 314) (by decide +kernel) (by decide +kernel)
theorem w_sm_239 : Cond.sameMethod "java/lang/Object" "java/lang/Object" "getClass" "()Ljava/lang/Class;" ∈ gw := gw_in (i := 315) (by decide +kernel) (by decide +kernel)
theorem w_se_X7_Object_getClass_651 : Cond.selects RX7 (⟨"java/lang/Object", "getClass", "()Ljava/lang/Class;"⟩ : MethodName) (⟨"java/lang/Object", "getClass", "()Ljava/lang/Class;"⟩ : MethodName) ∈ gw := gw_in (i := 316) (by decide +kernel) (by decide +kernel)
theorem w_se_X1_Object_getClass_651 : Cond.selects RX1 (⟨"java/lang/Object", "getClass", "()Ljava/lang/Class;"⟩ : MethodName) (⟨"java/lang/Object", "getClass", "()Ljava/lang/Class;"⟩ : MethodName) ∈ gw := gw_in (i := 317) (by decide +kernel) (by decide +kernel)
theorem w_se_X2_Object_getClass_651 : Cond.selects RX2 (⟨"java/lang/Object", "getClass", "()Ljava/lang/Class;"⟩ : MethodName) (⟨"java/lang/Object", "getClass", "()Ljava/lang/Class;"⟩ : MethodName) ∈ gw := gw_in (i := 318) (by decide +kernel) (by decide +kernel)
theorem w_se_X3_Object_getClass_651 : Cond.selects RX3 (⟨"java/lang/Object", "getClass", "()Ljava/lang/Class;"⟩ : MethodName) (⟨"java/lang/Object", "getClass", "()Ljava/lang/Class;"⟩ : MethodName) ∈ gw := gw_in (i := 319) (by decide +kernel) (by decide +kernel)
theorem w_se_X4_Object_getClass_651 : Cond.selects RX4 (⟨"java/lang/Object", "getClass", "()Ljava/lang/Class;"⟩ : MethodName) (⟨"java/lang/Object", "getClass", "()Ljava/lang/Class;"⟩ : MethodName) ∈ gw := gw_in (i := 320) (by decide +kernel) (by decide +kernel)
theorem w_se_X5_Object_getClass_651 : Cond.selects RX5 (⟨"java/lang/Object", "getClass", "()Ljava/lang/Class;"⟩ : MethodName) (⟨"java/lang/Object", "getClass", "()Ljava/lang/Class;"⟩ : MethodName) ∈ gw := gw_in (i := 321) (by decide +kernel) (by decide +kernel)
theorem w_se_X6_Object_getClass_651 : Cond.selects RX6 (⟨"java/lang/Object", "getClass", "()Ljava/lang/Class;"⟩ : MethodName) (⟨"java/lang/Object", "getClass", "()Ljava/lang/Class;"⟩ : MethodName) ∈ gw := gw_in (i := 322) (by decide +kernel) (by decide +kernel)
theorem w_se_X9_Object_getClass_651 : Cond.selects RX9 (⟨"java/lang/Object", "getClass", "()Ljava/lang/Class;"⟩ : MethodName) (⟨"java/lang/Object", "getClass", "()Ljava/lang/Class;"⟩ : MethodName) ∈ gw := gw_in (i := 323) (by decide +kernel) (by decide +kernel)
theorem w_se_X8_Object_getClass_651 : Cond.selects RX8 (⟨"java/lang/Object", "getClass", "()Ljava/lang/Class;"⟩ : MethodName) (⟨"java/lang/Object", "getClass", "()Ljava/lang/Class;"⟩ : MethodName) ∈ gw := gw_in (i := 324) (by decide +kernel) (by decide +kernel)
theorem w_se_java_lang_IllegalArgumentException_Object_getClass_651 : Cond.selects "java/lang/IllegalArgumentException" (⟨"java/lang/Object", "getClass", "()Ljava/lang/Class;"⟩ : MethodName) (⟨"java/lang/Object", "getClass", "()Ljava/lang/Class;"⟩ : MethodName) ∈ gw := gw_in (i := 325) (by decide +kernel) (by decide +kernel)
theorem w_se_java_lang_IllegalStateException_Object_getClass_651 : Cond.selects "java/lang/IllegalStateException" (⟨"java/lang/Object", "getClass", "()Ljava/lang/Class;"⟩ : MethodName) (⟨"java/lang/Object", "getClass", "()Ljava/lang/Class;"⟩ : MethodName) ∈ gw := gw_in (i := 326) (by decide +kernel) (by decide +kernel)
theorem w_se_java_lang_IndexOutOfBoundsException_Object_getClass_651 : Cond.selects "java/lang/IndexOutOfBoundsException" (⟨"java/lang/Object", "getClass", "()Ljava/lang/Class;"⟩ : MethodName) (⟨"java/lang/Object", "getClass", "()Ljava/lang/Class;"⟩ : MethodName) ∈ gw := gw_in (i := 327) (by decide +kernel) (by decide +kernel)
theorem w_se_Jx4a65c_Object_getClass_651 : Cond.selects RJx4a65c (⟨"java/lang/Object", "getClass", "()Ljava/lang/Class;"⟩ : MethodName) (⟨"java/lang/Object", "getClass", "()Ljava/lang/Class;"⟩ : MethodName) ∈ gw := gw_in (i := 328) (by decide +kernel) (by decide +kernel)
theorem w_se_java_util_NoSuchElementException_Object_getClass_651 : Cond.selects "java/util/NoSuchElementException" (⟨"java/lang/Object", "getClass", "()Ljava/lang/Class;"⟩ : MethodName) (⟨"java/lang/Object", "getClass", "()Ljava/lang/Class;"⟩ : MethodName) ∈ gw := gw_in (i := 329) (by decide +kernel) (by decide +kernel)
theorem w_na_Object_getClass_651 : Cond.native (⟨"java/lang/Object", "getClass", "()Ljava/lang/Class;"⟩ : MethodName) ∈ gw := gw_in (i := 330) (by decide +kernel) (by decide +kernel)
theorem w_ml_J7_300 : Cond.methodLink RJ7 300 yJ7_copyOf_6403c ∈ gw := gw_in (i := 331) (by decide +kernel) (by decide +kernel)
theorem w_st_J7_copyOf_6403c : Cond.static yJ7_copyOf_6403c ∈ gw := gw_in (i := 332) (by decide +kernel) (by decide +kernel)
theorem w_co_J7_copyOf_6403c : Cond.code yJ7_copyOf_6403c cJ7_copyOf_6403c 4 (some (FieldType.array (FieldType.object "java/lang/Object"))) ∈ gw := gw_in (i := 333) (by decide +kernel) (by decide +kernel)
theorem w_cl_J7_110 : Cond.classLink RJ7 110 "[Ljava/lang/Object;" ∈ gw := gw_in (i := 334) (by decide +kernel) (by decide +kernel)
theorem w_cl_J7_2 : Cond.classLink RJ7 2 "java/lang/Object" ∈ gw := gw_in (i := 336) (by decide +kernel) (by decide +kernel)
theorem w_ml_J7_304 : Cond.methodLink RJ7 304 yJ9_min_7cf53 ∈ gw := gw_in (i := 337) (by decide +kernel) (by decide +kernel)
theorem w_st_J9_min_7cf53 : Cond.static yJ9_min_7cf53 ∈ gw := gw_in (i := 338) (by decide +kernel) (by decide +kernel)
theorem w_co_J9_min_7cf53 : Cond.code yJ9_min_7cf53 cJ9_min_7cf53 2 (some FieldType.int) ∈ gw := gw_in (i := 339) (by decide +kernel) (by decide +kernel)
theorem w_ml_J7_150 : Cond.methodLink RJ7 150 arraycopyName ∈ gw := gw_in (i := 340) (by decide +kernel) (by decide +kernel)
theorem w_st_System_arraycopy_723 : Cond.static arraycopyName ∈ gw := gw_in (i := 341) (by decide +kernel) (by decide +kernel)
theorem w_na_System_arraycopy_723 : Cond.native arraycopyName ∈ gw := gw_in (i := 342) (by decide +kernel) (by decide +kernel)
theorem w_ml_Jx4a65c_79 : Cond.methodLink RJx4a65c 79 yJ9_max_7cf53 ∈ gw := gw_in (i := 343) (by decide +kernel) (by decide +kernel)
theorem w_cl_Jx4a65c_7 : Cond.classLink RJx4a65c 7 "java/lang/Object" ∈ gw := gw_in (i := 344) (by decide +kernel) (by decide +kernel)
theorem w_fl_X7_10 : Cond.fieldLink RX7 10 "AtomicRuntime" "program" "Ljava/util/ArrayList;" ∈ gw := gw_in (i := 345) (by decide +kernel) (by decide +kernel)
theorem w_fl_X7_16 : Cond.fieldLink RX7 16 "AtomicRuntime" "strands" "Ljava/util/ArrayList;" ∈ gw := gw_in (i := 346) (by decide +kernel) (by decide +kernel)
theorem w_fl_X7_19 : Cond.fieldLink RX7 19 "AtomicRuntime" "globals" "[J" ∈ gw := gw_in (i := 347) (by decide +kernel) (by decide +kernel)
theorem w_fl_X7_26 : Cond.fieldLink RX7 26 "AtomicRuntime" "heap" "LAtomicRuntime$Heap;" ∈ gw := gw_in (i := 348) (by decide +kernel) (by decide +kernel)
theorem w_fl_X7_33 : Cond.fieldLink RX7 33 "AtomicRuntime" "printout" "LAtomicRuntime$Printout;" ∈ gw := gw_in (i := 349) (by decide +kernel) (by decide +kernel)
theorem w_fl_X7_37 : Cond.fieldLink RX7 37 "AtomicRuntime" "clock" "I" ∈ gw := gw_in (i := 350) (by decide +kernel) (by decide +kernel)
theorem w_fl_X7_41 : Cond.fieldLink RX7 41 "AtomicRuntime" "aborts" "I" ∈ gw := gw_in (i := 351) (by decide +kernel) (by decide +kernel)
theorem w_fl_X7_44 : Cond.fieldLink RX7 44 "AtomicRuntime" "collections" "I" ∈ gw := gw_in (i := 352) (by decide +kernel) (by decide +kernel)
theorem w_fl_X7_47 : Cond.fieldLink RX7 47 "AtomicRuntime" "steps" "I" ∈ gw := gw_in (i := 353) (by decide +kernel) (by decide +kernel)
theorem w_ml_L_83 : Cond.methodLink RL 83 yX7_collect ∈ gw := gw_in (i := 373) (by decide +kernel) (by decide +kernel)
theorem w_im_X7_collect : Cond.instanceMethod yX7_collect ∈ gw := gw_in (i := 374) (by decide +kernel) (by decide +kernel)
theorem w_se_X7_X7_collect : Cond.selects RX7 yX7_collect yX7_collect ∈ gw := gw_in (i := 375) (by decide +kernel) (by decide +kernel)
theorem w_co_X7_collect : Cond.code yX7_collect cX7_collect 1 (some FieldType.int) ∈ gw := gw_in (i := 376) (by decide +kernel) (by decide +kernel)
theorem w_ml_X7_145 : Cond.methodLink RX7 145 yX7_markAndSlide ∈ gw := gw_in (i := 377) (by decide +kernel) (by decide +kernel)
theorem w_im_X7_markAndSlide : Cond.instanceMethod yX7_markAndSlide ∈ gw := gw_in (i := 379) (by decide +kernel) (by decide +kernel)
theorem w_co_X7_markAndSlide : Cond.code yX7_markAndSlide cX7_markAndSlide 2 none ∈ gw := gw_in (i := 380) (by decide +kernel) (by decide +kernel)
theorem w_im_X1_beginMarking : Cond.instanceMethod yX1_beginMarking ∈ gw := gw_in (i := 383) (by decide +kernel) (by decide +kernel)
theorem w_co_X1_beginMarking : Cond.code yX1_beginMarking cX1_beginMarking 1 none ∈ gw := gw_in (i := 384) (by decide +kernel) (by decide +kernel)
theorem w_ml_X1_43 : Cond.methodLink RX1 43 yJ7_fill_53178 ∈ gw := gw_in (i := 385) (by decide +kernel) (by decide +kernel)
theorem w_st_J7_fill_53178 : Cond.static yJ7_fill_53178 ∈ gw := gw_in (i := 386) (by decide +kernel) (by decide +kernel)
theorem w_co_J7_fill_53178 : Cond.code yJ7_fill_53178 cJ7_fill_53178 4 none ∈ gw := gw_in (i := 387) (by decide +kernel) (by decide +kernel)
theorem w_im_X1_reachRow : Cond.instanceMethod yX1_reachRow ∈ gw := gw_in (i := 390) (by decide +kernel) (by decide +kernel)
theorem w_co_X1_reachRow : Cond.code yX1_reachRow cX1_reachRow 4 none ∈ gw := gw_in (i := 391) (by decide +kernel) (by decide +kernel)
theorem w_ml_X1_49 : Cond.methodLink RX1 49 yX1_reach ∈ gw := gw_in (i := 392) (by decide +kernel) (by decide +kernel)
theorem w_im_X1_reach : Cond.instanceMethod yX1_reach ∈ gw := gw_in (i := 394) (by decide +kernel) (by decide +kernel)
theorem w_co_X1_reach : Cond.code yX1_reach cX1_reach 4 none ∈ gw := gw_in (i := 395) (by decide +kernel) (by decide +kernel)
theorem w_kl_X1_35 : Cond.constantLong RX1 35 (8589934592) ∈ gw := gw_in (i := 396) (by decide +kernel) (by decide +kernel)
theorem w_st_X7_placeOf : Cond.static yX7_placeOf ∈ gw := gw_in (i := 398) (by decide +kernel) (by decide +kernel)
theorem w_co_X7_placeOf : Cond.code yX7_placeOf cX7_placeOf 2 (some FieldType.int) ∈ gw := gw_in (i := 399) (by decide +kernel) (by decide +kernel)
theorem w_kl_X7_155 : Cond.constantLong RX7 155 (8589934591) ∈ gw := gw_in (i := 400) (by decide +kernel) (by decide +kernel)
theorem w_ml_X7_59 : Cond.methodLink RX7 59 yJx4a65c_size_8abf5 ∈ gw := gw_in (i := 401) (by decide +kernel) (by decide +kernel)
theorem w_im_Jx4a65c_size_8abf5 : Cond.instanceMethod yJx4a65c_size_8abf5 ∈ gw := gw_in (i := 402) (by decide +kernel) (by decide +kernel)
theorem w_se_Jx4a65c_Jx4a65c_size_8abf5 : Cond.selects RJx4a65c yJx4a65c_size_8abf5 yJx4a65c_size_8abf5 ∈ gw := gw_in (i := 403) (by decide +kernel) (by decide +kernel)
theorem w_co_Jx4a65c_size_8abf5 : Cond.code yJx4a65c_size_8abf5 cJx4a65c_size_8abf5 1 (some FieldType.int) ∈ gw := gw_in (i := 404) (by decide +kernel) (by decide +kernel)
theorem w_ml_X7_77 : Cond.methodLink RX7 77 yJx4a65c_get_915e3 ∈ gw := gw_in (i := 405) (by decide +kernel) (by decide +kernel)
theorem w_im_Jx4a65c_get_915e3 : Cond.instanceMethod yJx4a65c_get_915e3 ∈ gw := gw_in (i := 406) (by decide +kernel) (by decide +kernel)
theorem w_se_Jx4a65c_Jx4a65c_get_915e3 : Cond.selects RJx4a65c yJx4a65c_get_915e3 yJx4a65c_get_915e3 ∈ gw := gw_in (i := 407) (by decide +kernel) (by decide +kernel)
theorem w_co_Jx4a65c_get_915e3 : Cond.code yJx4a65c_get_915e3 cJx4a65c_get_915e3 2 (some (FieldType.object "java/lang/Object")) ∈ gw := gw_in (i := 408) (by decide +kernel) (by decide +kernel)
theorem w_ml_Jx4a65c_118 : Cond.methodLink RJx4a65c 118 yJ15_checkIndex_7cf53 ∈ gw := gw_in (i := 409) (by decide +kernel) (by decide +kernel)
theorem w_st_J15_checkIndex_7cf53 : Cond.static yJ15_checkIndex_7cf53 ∈ gw := gw_in (i := 410) (by decide +kernel) (by decide +kernel)
theorem w_co_J15_checkIndex_7cf53 : Cond.code yJ15_checkIndex_7cf53 cJ15_checkIndex_7cf53 2 (some FieldType.int) ∈ gw := gw_in (i := 411) (by decide +kernel) (by decide +kernel)
theorem w_ml_J15_105 : Cond.methodLink RJ15 105 yJ3_checkIndex_8e157 ∈ gw := gw_in (i := 412) (by decide +kernel) (by decide +kernel)
theorem w_st_J3_checkIndex_8e157 : Cond.static yJ3_checkIndex_8e157 ∈ gw := gw_in (i := 413) (by decide +kernel) (by decide +kernel)
theorem w_co_J3_checkIndex_8e157 : Cond.code yJ3_checkIndex_8e157 cJ3_checkIndex_8e157 3 (some FieldType.int) ∈ gw := gw_in (i := 414) (by decide +kernel) (by decide +kernel)
theorem w_ml_Jx4a65c_123 : Cond.methodLink RJx4a65c 123 yJx4a65c_elementData_915e3 ∈ gw := gw_in (i := 415) (by decide +kernel) (by decide +kernel)
theorem w_im_Jx4a65c_elementData_915e3 : Cond.instanceMethod yJx4a65c_elementData_915e3 ∈ gw := gw_in (i := 416) (by decide +kernel) (by decide +kernel)
theorem w_se_Jx4a65c_Jx4a65c_elementData_915e3 : Cond.selects RJx4a65c yJx4a65c_elementData_915e3 yJx4a65c_elementData_915e3 ∈ gw := gw_in (i := 417) (by decide +kernel) (by decide +kernel)
theorem w_co_Jx4a65c_elementData_915e3 : Cond.code yJx4a65c_elementData_915e3 cJx4a65c_elementData_915e3 2 (some (FieldType.object "java/lang/Object")) ∈ gw := gw_in (i := 418) (by decide +kernel) (by decide +kernel)
theorem w_ml_X7_369 : Cond.methodLink RX7 369 yX7_reachFrom ∈ gw := gw_in (i := 419) (by decide +kernel) (by decide +kernel)
theorem w_im_X7_reachFrom : Cond.instanceMethod yX7_reachFrom ∈ gw := gw_in (i := 421) (by decide +kernel) (by decide +kernel)
theorem w_co_X7_reachFrom : Cond.code yX7_reachFrom cX7_reachFrom 2 none ∈ gw := gw_in (i := 422) (by decide +kernel) (by decide +kernel)
theorem w_im_X6_registersKept : Cond.instanceMethod yX6_registersKept ∈ gw := gw_in (i := 425) (by decide +kernel) (by decide +kernel)
theorem w_co_X6_registersKept : Cond.code yX6_registersKept cX6_registersKept 1 (some FieldType.int) ∈ gw := gw_in (i := 426) (by decide +kernel) (by decide +kernel)
theorem w_im_X1_reachPlaces : Cond.instanceMethod yX1_reachPlaces ∈ gw := gw_in (i := 429) (by decide +kernel) (by decide +kernel)
theorem w_co_X1_reachPlaces : Cond.code yX1_reachPlaces cX1_reachPlaces 4 none ∈ gw := gw_in (i := 430) (by decide +kernel) (by decide +kernel)
theorem w_kl_X1_41 : Cond.constantLong RX1 41 (17179869184) ∈ gw := gw_in (i := 431) (by decide +kernel) (by decide +kernel)
theorem w_im_X1_reachOnward : Cond.instanceMethod yX1_reachOnward ∈ gw := gw_in (i := 434) (by decide +kernel) (by decide +kernel)
theorem w_co_X1_reachOnward : Cond.code yX1_reachOnward cX1_reachOnward 2 none ∈ gw := gw_in (i := 435) (by decide +kernel) (by decide +kernel)
theorem w_im_X1_slide : Cond.instanceMethod yX1_slide ∈ gw := gw_in (i := 438) (by decide +kernel) (by decide +kernel)
theorem w_co_X1_slide : Cond.code yX1_slide cX1_slide 3 none ∈ gw := gw_in (i := 439) (by decide +kernel) (by decide +kernel)
theorem w_ml_X1_57 : Cond.methodLink RX1 57 yX1_followRow ∈ gw := gw_in (i := 440) (by decide +kernel) (by decide +kernel)
theorem w_im_X1_followRow : Cond.instanceMethod yX1_followRow ∈ gw := gw_in (i := 442) (by decide +kernel) (by decide +kernel)
theorem w_co_X1_followRow : Cond.code yX1_followRow cX1_followRow 5 none ∈ gw := gw_in (i := 443) (by decide +kernel) (by decide +kernel)
theorem w_ml_X7_381 : Cond.methodLink RX7 381 yX7_followIn ∈ gw := gw_in (i := 445) (by decide +kernel) (by decide +kernel)
theorem w_im_X7_followIn : Cond.instanceMethod yX7_followIn ∈ gw := gw_in (i := 447) (by decide +kernel) (by decide +kernel)
theorem w_co_X7_followIn : Cond.code yX7_followIn cX7_followIn 2 none ∈ gw := gw_in (i := 448) (by decide +kernel) (by decide +kernel)
theorem w_im_X6_forgetPlacesFrom : Cond.instanceMethod yX6_forgetPlacesFrom ∈ gw := gw_in (i := 451) (by decide +kernel) (by decide +kernel)
theorem w_co_X6_forgetPlacesFrom : Cond.code yX6_forgetPlacesFrom cX6_forgetPlacesFrom 3 none ∈ gw := gw_in (i := 452) (by decide +kernel) (by decide +kernel)
theorem w_kl_X6_82 : Cond.constantLong RX6 82 (8589934592) ∈ gw := gw_in (i := 453) (by decide +kernel) (by decide +kernel)
theorem w_im_X1_followPlaces : Cond.instanceMethod yX1_followPlaces ∈ gw := gw_in (i := 456) (by decide +kernel) (by decide +kernel)
theorem w_co_X1_followPlaces : Cond.code yX1_followPlaces cX1_followPlaces 4 none ∈ gw := gw_in (i := 457) (by decide +kernel) (by decide +kernel)
theorem w_ml_L_87 : Cond.methodLink RL 87 yX7_count ∈ gw := gw_in (i := 458) (by decide +kernel) (by decide +kernel)
theorem w_im_X7_count : Cond.instanceMethod yX7_count ∈ gw := gw_in (i := 459) (by decide +kernel) (by decide +kernel)
theorem w_se_X7_X7_count : Cond.selects RX7 yX7_count yX7_count ∈ gw := gw_in (i := 460) (by decide +kernel) (by decide +kernel)
theorem w_co_X7_count : Cond.code yX7_count cX7_count 2 (some FieldType.int) ∈ gw := gw_in (i := 461) (by decide +kernel) (by decide +kernel)
theorem w_ml_X7_148 : Cond.methodLink RX7 148 yX7_isDeadlocked ∈ gw := gw_in (i := 462) (by decide +kernel) (by decide +kernel)
theorem w_im_X7_isDeadlocked : Cond.instanceMethod yX7_isDeadlocked ∈ gw := gw_in (i := 464) (by decide +kernel) (by decide +kernel)
theorem w_co_X7_isDeadlocked : Cond.code yX7_isDeadlocked cX7_isDeadlocked 4 (some FieldType.boolean) ∈ gw := gw_in (i := 465) (by decide +kernel) (by decide +kernel)
theorem w_ml_L_50 : Cond.methodLink RL 50 yL_put ∈ gw := gw_in (i := 466) (by decide +kernel) (by decide +kernel)
theorem w_st_L_put : Cond.static yL_put ∈ gw := gw_in (i := 467) (by decide +kernel) (by decide +kernel)
theorem w_cw_L_put : Cond.codeWith yL_put cL_put 7 (some .int) [(0, 14, 17, 13)] ∈ gw := gw_in (i := 468) (by decide +kernel) (by decide +kernel)
theorem w_cl_L_13 : Cond.classLink RL 13 "java/lang/IllegalStateException" ∈ gw := gw_in (i := 469) (by decide +kernel) (by decide +kernel)
theorem w_ml_L_7 : Cond.methodLink RL 7 yX7_put ∈ gw := gw_in (i := 470) (by decide +kernel) (by decide +kernel)
theorem w_im_X7_put : Cond.instanceMethod yX7_put ∈ gw := gw_in (i := 471) (by decide +kernel) (by decide +kernel)
theorem w_se_X7_X7_put : Cond.selects RX7 yX7_put yX7_put ∈ gw := gw_in (i := 472) (by decide +kernel) (by decide +kernel)
theorem w_co_X7_put : Cond.code yX7_put cX7_put 6 (some FieldType.int) ∈ gw := gw_in (i := 473) (by decide +kernel) (by decide +kernel)
theorem w_cl_X7_63 : Cond.classLink RX7 63 "java/lang/IllegalStateException" ∈ gw := gw_in (i := 474) (by decide +kernel) (by decide +kernel)
theorem w_is_java_lang_IllegalStateException : Cond.instantiable "java/lang/IllegalStateException" 6 ∈ gw := gw_in (i := 475) (by decide +kernel) (by decide +kernel)
theorem w_se_java_lang_IllegalStateException_Throwable_fillInStackTrace_161 : Cond.selects "java/lang/IllegalStateException" (⟨"java/lang/Throwable", "fillInStackTrace", "(I)Ljava/lang/Throwable;"⟩ : MethodName) (⟨"java/lang/Throwable", "fillInStackTrace", "(I)Ljava/lang/Throwable;"⟩ : MethodName) ∈ gw := gw_in (i := 483) (by decide +kernel) (by decide +kernel)
theorem w_se_java_lang_IllegalStateException_Throwable_fillInStackTrace_88 : Cond.selects "java/lang/IllegalStateException" (⟨"java/lang/Throwable", "fillInStackTrace", "()Ljava/lang/Throwable;"⟩ : MethodName) (⟨"java/lang/Throwable", "fillInStackTrace", "()Ljava/lang/Throwable;"⟩ : MethodName) ∈ gw := gw_in (i := 484) (by decide +kernel) (by decide +kernel)
theorem w_fl_java_lang_Throwable_198 : Cond.fieldLink "java/lang/Throwable" 198 "java/lang/Throwable" "backtrace" "Ljava/lang/Object;" ∈ gw := gw_in (i := 495) (by decide +kernel) (by decide +kernel)
theorem w_im_Throwable__init_ : Cond.instanceMethod (⟨"java/lang/Throwable", "<init>", "()V"⟩ : MethodName) ∈ gw := gw_in (i := 497) (by decide +kernel) (by decide +kernel)
theorem w_co_Throwable__init_ : Cond.code (⟨"java/lang/Throwable", "<init>", "()V"⟩ : MethodName) prog_28_method_1_code 1 none ∈ gw := gw_in (i := 498) (by decide +kernel) (by decide +kernel)
theorem w_ml_java_lang_Throwable_1 : Cond.methodLink "java/lang/Throwable" 1 objectInit ∈ gw := gw_in (i := 499) (by decide +kernel) (by decide +kernel)
theorem w_fl_java_lang_Throwable_13 : Cond.fieldLink "java/lang/Throwable" 13 "java/lang/Throwable" "UNASSIGNED_STACK" "[Ljava/lang/StackTraceElement;" ∈ gw := gw_in (i := 500) (by decide +kernel) (by decide +kernel)
theorem w_fl_java_lang_Throwable_20 : Cond.fieldLink "java/lang/Throwable" 20 "java/lang/Throwable" "SUPPRESSED_SENTINEL" "Ljava/util/List;" ∈ gw := gw_in (i := 502) (by decide +kernel) (by decide +kernel)
theorem w_ml_java_lang_Throwable_27 : Cond.methodLink "java/lang/Throwable" 27 (⟨"java/lang/Throwable", "fillInStackTrace", "()Ljava/lang/Throwable;"⟩ : MethodName) ∈ gw := gw_in (i := 504) (by decide +kernel) (by decide +kernel)
theorem w_im_Throwable_fillInStackTrace_88 : Cond.instanceMethod (⟨"java/lang/Throwable", "fillInStackTrace", "()Ljava/lang/Throwable;"⟩ : MethodName) ∈ gw := gw_in (i := 505) (by decide +kernel) (by decide +kernel)
theorem w_sm_430 : Cond.sameMethod "java/lang/Throwable" "java/lang/Throwable" "fillInStackTrace" "()Ljava/lang/Throwable;" ∈ gw := gw_in (i := 506) (by decide +kernel) (by decide +kernel)
theorem w_se_java_lang_IllegalArgumentException_Throwable_fillInStackTrace_88 : Cond.selects "java/lang/IllegalArgumentException" (⟨"java/lang/Throwable", "fillInStackTrace", "()Ljava/lang/Throwable;"⟩ : MethodName) (⟨"java/lang/Throwable", "fillInStackTrace", "()Ljava/lang/Throwable;"⟩ : MethodName) ∈ gw := gw_in (i := 507) (by decide +kernel) (by decide +kernel)
theorem w_se_java_lang_IndexOutOfBoundsException_Throwable_fillInStackTrace_88 : Cond.selects "java/lang/IndexOutOfBoundsException" (⟨"java/lang/Throwable", "fillInStackTrace", "()Ljava/lang/Throwable;"⟩ : MethodName) (⟨"java/lang/Throwable", "fillInStackTrace", "()Ljava/lang/Throwable;"⟩ : MethodName) ∈ gw := gw_in (i := 508) (by decide +kernel) (by decide +kernel)
theorem w_se_java_util_NoSuchElementException_Throwable_fillInStackTrace_88 : Cond.selects "java/util/NoSuchElementException" (⟨"java/lang/Throwable", "fillInStackTrace", "()Ljava/lang/Throwable;"⟩ : MethodName) (⟨"java/lang/Throwable", "fillInStackTrace", "()Ljava/lang/Throwable;"⟩ : MethodName) ∈ gw := gw_in (i := 509) (by decide +kernel) (by decide +kernel)
theorem w_ml_java_lang_Throwable_202 : Cond.methodLink "java/lang/Throwable" 202 (⟨"java/lang/Throwable", "fillInStackTrace", "(I)Ljava/lang/Throwable;"⟩ : MethodName) ∈ gw := gw_in (i := 511) (by decide +kernel) (by decide +kernel)
theorem w_im_Throwable_fillInStackTrace_161 : Cond.instanceMethod (⟨"java/lang/Throwable", "fillInStackTrace", "(I)Ljava/lang/Throwable;"⟩ : MethodName) ∈ gw := gw_in (i := 513) (by decide +kernel) (by decide +kernel)
theorem w_is_java_lang_Throwable : Cond.instantiable "java/lang/Throwable" 6 ∈ gw := gw_in (i := 514) (by decide +kernel) (by decide +kernel)
theorem w_na_Throwable_fillInStackTrace_161 : Cond.native (⟨"java/lang/Throwable", "fillInStackTrace", "(I)Ljava/lang/Throwable;"⟩ : MethodName) ∈ gw := gw_in (i := 515) (by decide +kernel) (by decide +kernel)
theorem w_ml_X7_65 : Cond.methodLink RX7 65 (⟨"java/lang/IllegalStateException", "<init>", "()V"⟩ : MethodName) ∈ gw := gw_in (i := 516) (by decide +kernel) (by decide +kernel)
theorem w_im_IllegalStateException__init_ : Cond.instanceMethod (⟨"java/lang/IllegalStateException", "<init>", "()V"⟩ : MethodName) ∈ gw := gw_in (i := 517) (by decide +kernel) (by decide +kernel)
theorem w_co_IllegalStateException__init_ : Cond.code (⟨"java/lang/IllegalStateException", "<init>", "()V"⟩ : MethodName) prog_19_method_1_code 1 none ∈ gw := gw_in (i := 518) (by decide +kernel) (by decide +kernel)
theorem w_ml_java_lang_IllegalStateException_1 : Cond.methodLink "java/lang/IllegalStateException" 1 (⟨"java/lang/RuntimeException", "<init>", "()V"⟩ : MethodName) ∈ gw := gw_in (i := 519) (by decide +kernel) (by decide +kernel)
theorem w_im_RuntimeException__init_ : Cond.instanceMethod (⟨"java/lang/RuntimeException", "<init>", "()V"⟩ : MethodName) ∈ gw := gw_in (i := 520) (by decide +kernel) (by decide +kernel)
theorem w_co_RuntimeException__init_ : Cond.code (⟨"java/lang/RuntimeException", "<init>", "()V"⟩ : MethodName) prog_23_method_1_code 1 none ∈ gw := gw_in (i := 521) (by decide +kernel) (by decide +kernel)
theorem w_ml_java_lang_RuntimeException_1 : Cond.methodLink "java/lang/RuntimeException" 1 (⟨"java/lang/Exception", "<init>", "()V"⟩ : MethodName) ∈ gw := gw_in (i := 522) (by decide +kernel) (by decide +kernel)
theorem w_im_Exception__init_ : Cond.instanceMethod (⟨"java/lang/Exception", "<init>", "()V"⟩ : MethodName) ∈ gw := gw_in (i := 523) (by decide +kernel) (by decide +kernel)
theorem w_co_Exception__init_ : Cond.code (⟨"java/lang/Exception", "<init>", "()V"⟩ : MethodName) prog_17_method_1_code 1 none ∈ gw := gw_in (i := 524) (by decide +kernel) (by decide +kernel)
theorem w_ml_java_lang_Exception_1 : Cond.methodLink "java/lang/Exception" 1 (⟨"java/lang/Throwable", "<init>", "()V"⟩ : MethodName) ∈ gw := gw_in (i := 525) (by decide +kernel) (by decide +kernel)
theorem w_fl_java_lang_Throwable_198_450 : Cond.fieldLink "java/lang/Throwable" 198 "java/lang/Throwable" "backtrace" "Ljava/lang/Object;" ∈ gw := gw_in (i := 526) (by decide +kernel) (by decide +kernel)
theorem w_fl_java_lang_Throwable_7 : Cond.fieldLink "java/lang/Throwable" 7 "java/lang/Throwable" "cause" "Ljava/lang/Throwable;" ∈ gw := gw_in (i := 527) (by decide +kernel) (by decide +kernel)
theorem w_fl_java_lang_Throwable_17 : Cond.fieldLink "java/lang/Throwable" 17 "java/lang/Throwable" "stackTrace" "[Ljava/lang/StackTraceElement;" ∈ gw := gw_in (i := 528) (by decide +kernel) (by decide +kernel)
theorem w_fl_java_lang_Throwable_24 : Cond.fieldLink "java/lang/Throwable" 24 "java/lang/Throwable" "suppressedExceptions" "Ljava/util/List;" ∈ gw := gw_in (i := 529) (by decide +kernel) (by decide +kernel)
theorem w_cl_X7_66 : Cond.classLink RX7 66 RX2 ∈ gw := gw_in (i := 538) (by decide +kernel) (by decide +kernel)
theorem w_is_X2 : Cond.instantiable RX2 4 ∈ gw := gw_in (i := 539) (by decide +kernel) (by decide +kernel)
theorem w_im_X2_init : Cond.instanceMethod yX2_init ∈ gw := gw_in (i := 541) (by decide +kernel) (by decide +kernel)
theorem w_co_X2_init : Cond.code yX2_init cX2_init 5 none ∈ gw := gw_in (i := 542) (by decide +kernel) (by decide +kernel)
theorem w_ml_X2_1 : Cond.methodLink RX2 1 objectInit ∈ gw := gw_in (i := 543) (by decide +kernel) (by decide +kernel)
theorem w_fl_X2_7 : Cond.fieldLink RX2 7 "AtomicRuntime$Instruction" "number" "I" ∈ gw := gw_in (i := 544) (by decide +kernel) (by decide +kernel)
theorem w_fl_X2_13 : Cond.fieldLink RX2 13 "AtomicRuntime$Instruction" "a" "I" ∈ gw := gw_in (i := 546) (by decide +kernel) (by decide +kernel)
theorem w_fl_X2_16 : Cond.fieldLink RX2 16 "AtomicRuntime$Instruction" "b" "I" ∈ gw := gw_in (i := 548) (by decide +kernel) (by decide +kernel)
theorem w_fl_X2_19 : Cond.fieldLink RX2 19 "AtomicRuntime$Instruction" "c" "I" ∈ gw := gw_in (i := 550) (by decide +kernel) (by decide +kernel)
theorem w_ml_L_60 : Cond.methodLink RL 60 yL_run ∈ gw := gw_in (i := 561) (by decide +kernel) (by decide +kernel)
theorem w_st_L_run : Cond.static yL_run ∈ gw := gw_in (i := 562) (by decide +kernel) (by decide +kernel)
theorem w_cw_L_run : Cond.codeWith yL_run cL_run 5 (some .int) [(0, 10, 13, 19), (0, 10, 17, 21)] ∈ gw := gw_in (i := 563) (by decide +kernel) (by decide +kernel)
theorem w_cl_L_19 : Cond.classLink RL 19 "java/util/NoSuchElementException" ∈ gw := gw_in (i := 564) (by decide +kernel) (by decide +kernel)
theorem w_cl_L_21 : Cond.classLink RL 21 "java/lang/IllegalArgumentException" ∈ gw := gw_in (i := 565) (by decide +kernel) (by decide +kernel)
theorem w_ml_L_15 : Cond.methodLink RL 15 yX7_run ∈ gw := gw_in (i := 566) (by decide +kernel) (by decide +kernel)
theorem w_im_X7_run : Cond.instanceMethod yX7_run ∈ gw := gw_in (i := 567) (by decide +kernel) (by decide +kernel)
theorem w_se_X7_X7_run : Cond.selects RX7 yX7_run yX7_run ∈ gw := gw_in (i := 568) (by decide +kernel) (by decide +kernel)
theorem w_co_X7_run : Cond.code yX7_run cX7_run 5 (some FieldType.int) ∈ gw := gw_in (i := 569) (by decide +kernel) (by decide +kernel)
theorem w_cl_X7_71 : Cond.classLink RX7 71 "java/util/NoSuchElementException" ∈ gw := gw_in (i := 570) (by decide +kernel) (by decide +kernel)
theorem w_is_java_util_NoSuchElementException : Cond.instantiable "java/util/NoSuchElementException" 6 ∈ gw := gw_in (i := 571) (by decide +kernel) (by decide +kernel)
theorem w_se_java_util_NoSuchElementException_Throwable_fillInStackTrace_161 : Cond.selects "java/util/NoSuchElementException" (⟨"java/lang/Throwable", "fillInStackTrace", "(I)Ljava/lang/Throwable;"⟩ : MethodName) (⟨"java/lang/Throwable", "fillInStackTrace", "(I)Ljava/lang/Throwable;"⟩ : MethodName) ∈ gw := gw_in (i := 573) (by decide +kernel) (by decide +kernel)
theorem w_ml_X7_73 : Cond.methodLink RX7 73 (⟨"java/util/NoSuchElementException", "<init>", "()V"⟩ : MethodName) ∈ gw := gw_in (i := 579) (by decide +kernel) (by decide +kernel)
theorem w_im_NoSuchElementException__init_ : Cond.instanceMethod (⟨"java/util/NoSuchElementException", "<init>", "()V"⟩ : MethodName) ∈ gw := gw_in (i := 580) (by decide +kernel) (by decide +kernel)
theorem w_co_NoSuchElementException__init_ : Cond.code (⟨"java/util/NoSuchElementException", "<init>", "()V"⟩ : MethodName) prog_37_method_1_code 1 none ∈ gw := gw_in (i := 581) (by decide +kernel) (by decide +kernel)
theorem w_ml_java_util_NoSuchElementException_1 : Cond.methodLink "java/util/NoSuchElementException" 1 (⟨"java/lang/RuntimeException", "<init>", "()V"⟩ : MethodName) ∈ gw := gw_in (i := 582) (by decide +kernel) (by decide +kernel)
theorem w_cl_X7_74 : Cond.classLink RX7 74 "java/lang/IllegalArgumentException" ∈ gw := gw_in (i := 585) (by decide +kernel) (by decide +kernel)
theorem w_is_java_lang_IllegalArgumentException : Cond.instantiable "java/lang/IllegalArgumentException" 6 ∈ gw := gw_in (i := 586) (by decide +kernel) (by decide +kernel)
theorem w_se_java_lang_IllegalArgumentException_Throwable_fillInStackTrace_161 : Cond.selects "java/lang/IllegalArgumentException" (⟨"java/lang/Throwable", "fillInStackTrace", "(I)Ljava/lang/Throwable;"⟩ : MethodName) (⟨"java/lang/Throwable", "fillInStackTrace", "(I)Ljava/lang/Throwable;"⟩ : MethodName) ∈ gw := gw_in (i := 588) (by decide +kernel) (by decide +kernel)
theorem w_ml_X7_76 : Cond.methodLink RX7 76 (⟨"java/lang/IllegalArgumentException", "<init>", "()V"⟩ : MethodName) ∈ gw := gw_in (i := 594) (by decide +kernel) (by decide +kernel)
theorem w_im_IllegalArgumentException__init_ : Cond.instanceMethod (⟨"java/lang/IllegalArgumentException", "<init>", "()V"⟩ : MethodName) ∈ gw := gw_in (i := 595) (by decide +kernel) (by decide +kernel)
theorem w_co_IllegalArgumentException__init_ : Cond.code (⟨"java/lang/IllegalArgumentException", "<init>", "()V"⟩ : MethodName) prog_18_method_1_code 1 none ∈ gw := gw_in (i := 596) (by decide +kernel) (by decide +kernel)
theorem w_ml_java_lang_IllegalArgumentException_1 : Cond.methodLink "java/lang/IllegalArgumentException" 1 (⟨"java/lang/RuntimeException", "<init>", "()V"⟩ : MethodName) ∈ gw := gw_in (i := 597) (by decide +kernel) (by decide +kernel)
theorem w_ml_X7_84 : Cond.methodLink RX7 84 yX7_step ∈ gw := gw_in (i := 600) (by decide +kernel) (by decide +kernel)
theorem w_im_X7_step : Cond.instanceMethod yX7_step ∈ gw := gw_in (i := 602) (by decide +kernel) (by decide +kernel)
theorem w_co_X7_step : Cond.code yX7_step cX7_step 4 none ∈ gw := gw_in (i := 603) (by decide +kernel) (by decide +kernel)
theorem w_ml_X7_157 : Cond.methodLink RX7 157 yX7_perform ∈ gw := gw_in (i := 604) (by decide +kernel) (by decide +kernel)
theorem w_im_X7_perform : Cond.instanceMethod yX7_perform ∈ gw := gw_in (i := 606) (by decide +kernel) (by decide +kernel)
theorem w_co_X7_perform : Cond.code yX7_perform cX7_perform 5 (some FieldType.int) ∈ gw := gw_in (i := 607) (by decide +kernel) (by decide +kernel)
theorem w_ml_X7_164 : Cond.methodLink RX7 164 yX7_faultBefore ∈ gw := gw_in (i := 608) (by decide +kernel) (by decide +kernel)
theorem w_st_X7_faultBefore : Cond.static yX7_faultBefore ∈ gw := gw_in (i := 609) (by decide +kernel) (by decide +kernel)
theorem w_co_X7_faultBefore : Cond.code yX7_faultBefore cX7_faultBefore 3 (some FieldType.int) ∈ gw := gw_in (i := 610) (by decide +kernel) (by decide +kernel)
theorem w_ml_X7_222 : Cond.methodLink RX7 222 yX7_operandsFit ∈ gw := gw_in (i := 613) (by decide +kernel) (by decide +kernel)
theorem w_st_X7_operandsFit : Cond.static yX7_operandsFit ∈ gw := gw_in (i := 614) (by decide +kernel) (by decide +kernel)
theorem w_co_X7_operandsFit : Cond.code yX7_operandsFit cX7_operandsFit 3 (some FieldType.boolean) ∈ gw := gw_in (i := 615) (by decide +kernel) (by decide +kernel)
theorem w_ml_X7_237 : Cond.methodLink RX7 237 yJ0_charAt_5068e ∈ gw := gw_in (i := 616) (by decide +kernel) (by decide +kernel)
theorem w_im_J0_charAt_5068e : Cond.instanceMethod yJ0_charAt_5068e ∈ gw := gw_in (i := 617) (by decide +kernel) (by decide +kernel)
theorem w_se_J0_J0_charAt_5068e : Cond.selects RJ0 yJ0_charAt_5068e yJ0_charAt_5068e ∈ gw := gw_in (i := 618) (by decide +kernel) (by decide +kernel)
theorem w_co_J0_charAt_5068e : Cond.code yJ0_charAt_5068e cJ0_charAt_5068e 2 (some FieldType.char) ∈ gw := gw_in (i := 619) (by decide +kernel) (by decide +kernel)
theorem w_ml_J0_492 : Cond.methodLink RJ0 492 yJ0_isLatin1_aae02 ∈ gw := gw_in (i := 620) (by decide +kernel) (by decide +kernel)
theorem w_im_J0_isLatin1_aae02 : Cond.instanceMethod yJ0_isLatin1_aae02 ∈ gw := gw_in (i := 621) (by decide +kernel) (by decide +kernel)
theorem w_se_J0_J0_isLatin1_aae02 : Cond.selects RJ0 yJ0_isLatin1_aae02 yJ0_isLatin1_aae02 ∈ gw := gw_in (i := 622) (by decide +kernel) (by decide +kernel)
theorem w_co_J0_isLatin1_aae02 : Cond.code yJ0_isLatin1_aae02 cJ0_isLatin1_aae02 1 (some FieldType.boolean) ∈ gw := gw_in (i := 623) (by decide +kernel) (by decide +kernel)
theorem w_fl_J0_38 : Cond.fieldLink RJ0 38 "java/lang/String" "COMPACT_STRINGS" "Z" ∈ gw := gw_in (i := 624) (by decide +kernel) (by decide +kernel)
theorem w_ml_J0_495 : Cond.methodLink RJ0 495 yJ1_charAt_3b067 ∈ gw := gw_in (i := 626) (by decide +kernel) (by decide +kernel)
theorem w_st_J1_charAt_3b067 : Cond.static yJ1_charAt_3b067 ∈ gw := gw_in (i := 627) (by decide +kernel) (by decide +kernel)
theorem w_co_J1_charAt_3b067 : Cond.code yJ1_charAt_3b067 cJ1_charAt_3b067 2 (some FieldType.char) ∈ gw := gw_in (i := 628) (by decide +kernel) (by decide +kernel)
theorem w_ml_J1_9 : Cond.methodLink RJ1 9 yJ0_checkIndex_df160 ∈ gw := gw_in (i := 629) (by decide +kernel) (by decide +kernel)
theorem w_st_J0_checkIndex_df160 : Cond.static yJ0_checkIndex_df160 ∈ gw := gw_in (i := 630) (by decide +kernel) (by decide +kernel)
theorem w_co_J0_checkIndex_df160 : Cond.code yJ0_checkIndex_df160 cJ0_checkIndex_df160 2 none ∈ gw := gw_in (i := 631) (by decide +kernel) (by decide +kernel)
theorem w_fl_J0_1053 : Cond.fieldLink RJ0 1053 "jdk/internal/util/Preconditions" "SIOOBE_FORMATTER" "Ljava/util/function/BiFunction;" ∈ gw := gw_in (i := 632) (by decide +kernel) (by decide +kernel)
theorem w_ml_J0_1059 : Cond.methodLink RJ0 1059 yJ3_checkIndex_8e157 ∈ gw := gw_in (i := 634) (by decide +kernel) (by decide +kernel)
theorem w_ml_J0_498 : Cond.methodLink RJ0 498 yJ2_charAt_3b067 ∈ gw := gw_in (i := 635) (by decide +kernel) (by decide +kernel)
theorem w_st_J2_charAt_3b067 : Cond.static yJ2_charAt_3b067 ∈ gw := gw_in (i := 636) (by decide +kernel) (by decide +kernel)
theorem w_co_J2_charAt_3b067 : Cond.code yJ2_charAt_3b067 cJ2_charAt_3b067 2 (some FieldType.char) ∈ gw := gw_in (i := 637) (by decide +kernel) (by decide +kernel)
theorem w_ml_J2_67 : Cond.methodLink RJ2 67 yJ2_checkIndex_2214a ∈ gw := gw_in (i := 638) (by decide +kernel) (by decide +kernel)
theorem w_st_J2_checkIndex_2214a : Cond.static yJ2_checkIndex_2214a ∈ gw := gw_in (i := 639) (by decide +kernel) (by decide +kernel)
theorem w_co_J2_checkIndex_2214a : Cond.code yJ2_checkIndex_2214a cJ2_checkIndex_2214a 2 none ∈ gw := gw_in (i := 640) (by decide +kernel) (by decide +kernel)
theorem w_ml_J2_48 : Cond.methodLink RJ2 48 yJ2_length_9d52b ∈ gw := gw_in (i := 641) (by decide +kernel) (by decide +kernel)
theorem w_st_J2_length_9d52b : Cond.static yJ2_length_9d52b ∈ gw := gw_in (i := 642) (by decide +kernel) (by decide +kernel)
theorem w_co_J2_length_9d52b : Cond.code yJ2_length_9d52b cJ2_length_9d52b 1 (some FieldType.int) ∈ gw := gw_in (i := 643) (by decide +kernel) (by decide +kernel)
theorem w_ml_J2_414 : Cond.methodLink RJ2 414 yJ0_checkIndex_df160 ∈ gw := gw_in (i := 644) (by decide +kernel) (by decide +kernel)
theorem w_ml_J2_71 : Cond.methodLink RJ2 71 yJ2_getChar_3b067 ∈ gw := gw_in (i := 645) (by decide +kernel) (by decide +kernel)
theorem w_st_J2_getChar_3b067 : Cond.static yJ2_getChar_3b067 ∈ gw := gw_in (i := 646) (by decide +kernel) (by decide +kernel)
theorem w_co_J2_getChar_3b067 : Cond.code yJ2_getChar_3b067 cJ2_getChar_3b067 2 (some FieldType.char) ∈ gw := gw_in (i := 647) (by decide +kernel) (by decide +kernel)
theorem w_fl_J2_44 : Cond.fieldLink RJ2 44 "java/lang/StringUTF16" "$assertionsDisabled" "Z" ∈ gw := gw_in (i := 648) (by decide +kernel) (by decide +kernel)
theorem w_fl_J2_59 : Cond.fieldLink RJ2 59 "java/lang/StringUTF16" "HI_BYTE_SHIFT" "I" ∈ gw := gw_in (i := 650) (by decide +kernel) (by decide +kernel)
theorem w_fl_J2_63 : Cond.fieldLink RJ2 63 "java/lang/StringUTF16" "LO_BYTE_SHIFT" "I" ∈ gw := gw_in (i := 652) (by decide +kernel) (by decide +kernel)
theorem w_ml_X7_243 : Cond.methodLink RX7 243 yX7_operandFits ∈ gw := gw_in (i := 654) (by decide +kernel) (by decide +kernel)
theorem w_st_X7_operandFits : Cond.static yX7_operandFits ∈ gw := gw_in (i := 655) (by decide +kernel) (by decide +kernel)
theorem w_co_X7_operandFits : Cond.code yX7_operandFits cX7_operandFits 5 (some FieldType.boolean) ∈ gw := gw_in (i := 656) (by decide +kernel) (by decide +kernel)
theorem w_ml_X7_250 : Cond.methodLink RX7 250 yX7_sortOf ∈ gw := gw_in (i := 657) (by decide +kernel) (by decide +kernel)
theorem w_st_X7_sortOf : Cond.static yX7_sortOf ∈ gw := gw_in (i := 658) (by decide +kernel) (by decide +kernel)
theorem w_co_X7_sortOf : Cond.code yX7_sortOf cX7_sortOf 2 (some FieldType.int) ∈ gw := gw_in (i := 659) (by decide +kernel) (by decide +kernel)
theorem w_kl_X7_151 : Cond.constantLong RX7 151 (17179869184) ∈ gw := gw_in (i := 660) (by decide +kernel) (by decide +kernel)
theorem w_kl_X7_153 : Cond.constantLong RX7 153 (8589934592) ∈ gw := gw_in (i := 661) (by decide +kernel) (by decide +kernel)
theorem w_ml_X7_226 : Cond.methodLink RX7 226 yX7_nestsFit ∈ gw := gw_in (i := 662) (by decide +kernel) (by decide +kernel)
theorem w_st_X7_nestsFit : Cond.static yX7_nestsFit ∈ gw := gw_in (i := 663) (by decide +kernel) (by decide +kernel)
theorem w_co_X7_nestsFit : Cond.code yX7_nestsFit cX7_nestsFit 3 (some FieldType.boolean) ∈ gw := gw_in (i := 664) (by decide +kernel) (by decide +kernel)
theorem w_im_X6_isInTransaction : Cond.instanceMethod yX6_isInTransaction ∈ gw := gw_in (i := 667) (by decide +kernel) (by decide +kernel)
theorem w_co_X6_isInTransaction : Cond.code yX6_isInTransaction cX6_isInTransaction 1 (some FieldType.boolean) ∈ gw := gw_in (i := 668) (by decide +kernel) (by decide +kernel)
theorem w_fl_X7_183 : Cond.fieldLink RX7 183 "AtomicRuntime$1" "$SwitchMap$AtomicRuntime$Op" "[I" ∈ gw := gw_in (i := 669) (by decide +kernel) (by decide +kernel)
theorem w_ml_X7_188 : Cond.methodLink RX7 188 (⟨"AtomicRuntime$Op", "ordinal", "()I"⟩ : MethodName) ∈ gw := gw_in (i := 671) (by decide +kernel) (by decide +kernel)
theorem w_sm_596 : Cond.sameMethod "AtomicRuntime$Op" "java/lang/Enum" "ordinal" "()I" ∈ gw := gw_in (i := 672) (by decide +kernel) (by decide +kernel)
theorem w_se_X4_Jx29ce0_ordinal_8abf5 : Cond.selects RX4 (⟨"AtomicRuntime$Op", "ordinal", "()I"⟩ : MethodName) yJx29ce0_ordinal_8abf5 ∈ gw := gw_in (i := 674) (by decide +kernel) (by decide +kernel)
theorem w_im_Jx29ce0_ordinal_8abf5 : Cond.instanceMethod yJx29ce0_ordinal_8abf5 ∈ gw := gw_in (i := 675) (by decide +kernel) (by decide +kernel)
theorem w_co_Jx29ce0_ordinal_8abf5 : Cond.code yJx29ce0_ordinal_8abf5 cJx29ce0_ordinal_8abf5 1 (some FieldType.int) ∈ gw := gw_in (i := 676) (by decide +kernel) (by decide +kernel)
theorem w_ml_X7_230 : Cond.methodLink RX7 230 yX7_callsFit ∈ gw := gw_in (i := 677) (by decide +kernel) (by decide +kernel)
theorem w_st_X7_callsFit : Cond.static yX7_callsFit ∈ gw := gw_in (i := 678) (by decide +kernel) (by decide +kernel)
theorem w_co_X7_callsFit : Cond.code yX7_callsFit cX7_callsFit 2 (some FieldType.boolean) ∈ gw := gw_in (i := 679) (by decide +kernel) (by decide +kernel)
theorem w_fl_X7_260 : Cond.fieldLink RX7 260 "AtomicRuntime$Op" "CALL" "LAtomicRuntime$Op;" ∈ gw := gw_in (i := 680) (by decide +kernel) (by decide +kernel)
theorem w_fl_X7_263 : Cond.fieldLink RX7 263 "AtomicRuntime$Op" "RET" "LAtomicRuntime$Op;" ∈ gw := gw_in (i := 682) (by decide +kernel) (by decide +kernel)
theorem w_im_X6_callsOfInnermostNest : Cond.instanceMethod yX6_callsOfInnermostNest ∈ gw := gw_in (i := 686) (by decide +kernel) (by decide +kernel)
theorem w_co_X6_callsOfInnermostNest : Cond.code yX6_callsOfInnermostNest cX6_callsOfInnermostNest 1 (some FieldType.int) ∈ gw := gw_in (i := 687) (by decide +kernel) (by decide +kernel)
theorem w_fl_X7_176 : Cond.fieldLink RX7 176 "AtomicRuntime$Op" "PAIR" "LAtomicRuntime$Op;" ∈ gw := gw_in (i := 688) (by decide +kernel) (by decide +kernel)
theorem w_fl_X7_180 : Cond.fieldLink RX7 180 "AtomicRuntime$Op" "VAR" "LAtomicRuntime$Op;" ∈ gw := gw_in (i := 690) (by decide +kernel) (by decide +kernel)
theorem w_ml_X7_197 : Cond.methodLink RX7 197 yX7_readVar ∈ gw := gw_in (i := 692) (by decide +kernel) (by decide +kernel)
theorem w_im_X7_readVar : Cond.instanceMethod yX7_readVar ∈ gw := gw_in (i := 694) (by decide +kernel) (by decide +kernel)
theorem w_co_X7_readVar : Cond.code yX7_readVar cX7_readVar 7 (some FieldType.int) ∈ gw := gw_in (i := 695) (by decide +kernel) (by decide +kernel)
theorem w_ml_X7_279 : Cond.methodLink RX7 279 yX7_placeOf ∈ gw := gw_in (i := 696) (by decide +kernel) (by decide +kernel)
theorem w_im_X3_lastWriteOf : Cond.instanceMethod yX3_lastWriteOf ∈ gw := gw_in (i := 699) (by decide +kernel) (by decide +kernel)
theorem w_co_X3_lastWriteOf : Cond.code yX3_lastWriteOf cX3_lastWriteOf 3 (some FieldType.int) ∈ gw := gw_in (i := 700) (by decide +kernel) (by decide +kernel)
theorem w_ml_X7_317 : Cond.methodLink RX7 317 yX7_abort ∈ gw := gw_in (i := 701) (by decide +kernel) (by decide +kernel)
theorem w_im_X7_abort : Cond.instanceMethod yX7_abort ∈ gw := gw_in (i := 703) (by decide +kernel) (by decide +kernel)
theorem w_co_X7_abort : Cond.code yX7_abort cX7_abort 2 none ∈ gw := gw_in (i := 704) (by decide +kernel) (by decide +kernel)
theorem w_im_X6_beginAgain : Cond.instanceMethod yX6_beginAgain ∈ gw := gw_in (i := 707) (by decide +kernel) (by decide +kernel)
theorem w_co_X6_beginAgain : Cond.code yX6_beginAgain cX6_beginAgain 2 none ∈ gw := gw_in (i := 708) (by decide +kernel) (by decide +kernel)
theorem w_ml_X6_69 : Cond.methodLink RX6 69 yX6_restore ∈ gw := gw_in (i := 709) (by decide +kernel) (by decide +kernel)
theorem w_im_X6_restore : Cond.instanceMethod yX6_restore ∈ gw := gw_in (i := 711) (by decide +kernel) (by decide +kernel)
theorem w_co_X6_restore : Cond.code yX6_restore cX6_restore 2 none ∈ gw := gw_in (i := 712) (by decide +kernel) (by decide +kernel)
theorem w_ml_X6_63 : Cond.methodLink RX6 63 arraycopyName ∈ gw := gw_in (i := 713) (by decide +kernel) (by decide +kernel)
theorem w_ml_X6_73 : Cond.methodLink RX6 73 yX6_dropNestsTo ∈ gw := gw_in (i := 714) (by decide +kernel) (by decide +kernel)
theorem w_im_X6_dropNestsTo : Cond.instanceMethod yX6_dropNestsTo ∈ gw := gw_in (i := 716) (by decide +kernel) (by decide +kernel)
theorem w_co_X6_dropNestsTo : Cond.code yX6_dropNestsTo cX6_dropNestsTo 2 none ∈ gw := gw_in (i := 717) (by decide +kernel) (by decide +kernel)
theorem w_im_X3_begin : Cond.instanceMethod yX3_begin ∈ gw := gw_in (i := 720) (by decide +kernel) (by decide +kernel)
theorem w_co_X3_begin : Cond.code yX3_begin cX3_begin 2 none ∈ gw := gw_in (i := 721) (by decide +kernel) (by decide +kernel)
theorem w_im_X3_hasRead : Cond.instanceMethod yX3_hasRead ∈ gw := gw_in (i := 724) (by decide +kernel) (by decide +kernel)
theorem w_co_X3_hasRead : Cond.code yX3_hasRead cX3_hasRead 3 (some FieldType.boolean) ∈ gw := gw_in (i := 725) (by decide +kernel) (by decide +kernel)
theorem w_im_X3_addRead : Cond.instanceMethod yX3_addRead ∈ gw := gw_in (i := 728) (by decide +kernel) (by decide +kernel)
theorem w_co_X3_addRead : Cond.code yX3_addRead cX3_addRead 2 none ∈ gw := gw_in (i := 729) (by decide +kernel) (by decide +kernel)
theorem w_ml_X7_201 : Cond.methodLink RX7 201 yX7_writeVar ∈ gw := gw_in (i := 730) (by decide +kernel) (by decide +kernel)
theorem w_im_X7_writeVar : Cond.instanceMethod yX7_writeVar ∈ gw := gw_in (i := 732) (by decide +kernel) (by decide +kernel)
theorem w_co_X7_writeVar : Cond.code yX7_writeVar cX7_writeVar 4 (some FieldType.int) ∈ gw := gw_in (i := 733) (by decide +kernel) (by decide +kernel)
theorem w_im_X3_addWrite : Cond.instanceMethod yX3_addWrite ∈ gw := gw_in (i := 736) (by decide +kernel) (by decide +kernel)
theorem w_co_X3_addWrite : Cond.code yX3_addWrite cX3_addWrite 4 none ∈ gw := gw_in (i := 737) (by decide +kernel) (by decide +kernel)
theorem w_ml_X7_204 : Cond.methodLink RX7 204 yX7_commit ∈ gw := gw_in (i := 738) (by decide +kernel) (by decide +kernel)
theorem w_im_X7_commit : Cond.instanceMethod yX7_commit ∈ gw := gw_in (i := 740) (by decide +kernel) (by decide +kernel)
theorem w_co_X7_commit : Cond.code yX7_commit cX7_commit 4 none ∈ gw := gw_in (i := 741) (by decide +kernel) (by decide +kernel)
theorem w_im_X3_isValid : Cond.instanceMethod yX3_isValid ∈ gw := gw_in (i := 744) (by decide +kernel) (by decide +kernel)
theorem w_co_X3_isValid : Cond.code yX3_isValid cX3_isValid 3 (some FieldType.boolean) ∈ gw := gw_in (i := 745) (by decide +kernel) (by decide +kernel)
theorem w_im_X1_assign : Cond.instanceMethod yX1_assign ∈ gw := gw_in (i := 749) (by decide +kernel) (by decide +kernel)
theorem w_co_X1_assign : Cond.code yX1_assign cX1_assign 5 none ∈ gw := gw_in (i := 750) (by decide +kernel) (by decide +kernel)
theorem w_ml_X7_345 : Cond.methodLink RX7 345 yX7_wakeReadersOf ∈ gw := gw_in (i := 751) (by decide +kernel) (by decide +kernel)
theorem w_im_X7_wakeReadersOf : Cond.instanceMethod yX7_wakeReadersOf ∈ gw := gw_in (i := 753) (by decide +kernel) (by decide +kernel)
theorem w_co_X7_wakeReadersOf : Cond.code yX7_wakeReadersOf cX7_wakeReadersOf 4 none ∈ gw := gw_in (i := 754) (by decide +kernel) (by decide +kernel)
theorem w_im_X3_readsOneThatIsIn : Cond.instanceMethod yX3_readsOneThatIsIn ∈ gw := gw_in (i := 757) (by decide +kernel) (by decide +kernel)
theorem w_co_X3_readsOneThatIsIn : Cond.code yX3_readsOneThatIsIn cX3_readsOneThatIsIn 3 (some FieldType.boolean) ∈ gw := gw_in (i := 758) (by decide +kernel) (by decide +kernel)
theorem w_ml_X3_37 : Cond.methodLink RX3 37 yX3_lastWriteOf ∈ gw := gw_in (i := 759) (by decide +kernel) (by decide +kernel)
theorem w_im_X3_clear : Cond.instanceMethod yX3_clear ∈ gw := gw_in (i := 762) (by decide +kernel) (by decide +kernel)
theorem w_co_X3_clear : Cond.code yX3_clear cX3_clear 1 none ∈ gw := gw_in (i := 763) (by decide +kernel) (by decide +kernel)
theorem w_ml_X7_207 : Cond.methodLink RX7 207 yX7_retry ∈ gw := gw_in (i := 764) (by decide +kernel) (by decide +kernel)
theorem w_im_X7_retry : Cond.instanceMethod yX7_retry ∈ gw := gw_in (i := 766) (by decide +kernel) (by decide +kernel)
theorem w_co_X7_retry : Cond.code yX7_retry cX7_retry 3 none ∈ gw := gw_in (i := 767) (by decide +kernel) (by decide +kernel)
theorem w_im_X6_rollBackTo : Cond.instanceMethod yX6_rollBackTo ∈ gw := gw_in (i := 770) (by decide +kernel) (by decide +kernel)
theorem w_co_X6_rollBackTo : Cond.code yX6_rollBackTo cX6_rollBackTo 2 none ∈ gw := gw_in (i := 771) (by decide +kernel) (by decide +kernel)
theorem w_ml_X7_210 : Cond.methodLink RX7 210 yX7_raise ∈ gw := gw_in (i := 772) (by decide +kernel) (by decide +kernel)
theorem w_im_X7_raise : Cond.instanceMethod yX7_raise ∈ gw := gw_in (i := 774) (by decide +kernel) (by decide +kernel)
theorem w_co_X7_raise : Cond.code yX7_raise cX7_raise 5 none ∈ gw := gw_in (i := 775) (by decide +kernel) (by decide +kernel)
theorem w_im_X6_fail : Cond.instanceMethod yX6_fail ∈ gw := gw_in (i := 778) (by decide +kernel) (by decide +kernel)
theorem w_co_X6_fail : Cond.code yX6_fail cX6_fail 2 none ∈ gw := gw_in (i := 779) (by decide +kernel) (by decide +kernel)
theorem w_ml_X7_214 : Cond.methodLink RX7 214 yX7_openOrEnd ∈ gw := gw_in (i := 781) (by decide +kernel) (by decide +kernel)
theorem w_im_X7_openOrEnd : Cond.instanceMethod yX7_openOrEnd ∈ gw := gw_in (i := 783) (by decide +kernel) (by decide +kernel)
theorem w_co_X7_openOrEnd : Cond.code yX7_openOrEnd cX7_openOrEnd 4 none ∈ gw := gw_in (i := 784) (by decide +kernel) (by decide +kernel)
theorem w_im_X6_openNest : Cond.instanceMethod yX6_openNest ∈ gw := gw_in (i := 787) (by decide +kernel) (by decide +kernel)
theorem w_co_X6_openNest : Cond.code yX6_openNest cX6_openNest 3 none ∈ gw := gw_in (i := 788) (by decide +kernel) (by decide +kernel)
theorem w_ml_X7_218 : Cond.methodLink RX7 218 yX7_performPlainly ∈ gw := gw_in (i := 790) (by decide +kernel) (by decide +kernel)
theorem w_im_X7_performPlainly : Cond.instanceMethod yX7_performPlainly ∈ gw := gw_in (i := 792) (by decide +kernel) (by decide +kernel)
theorem w_co_X7_performPlainly : Cond.code yX7_performPlainly cX7_performPlainly 8 none ∈ gw := gw_in (i := 793) (by decide +kernel) (by decide +kernel)
theorem w_im_X6_enter : Cond.instanceMethod yX6_enter ∈ gw := gw_in (i := 796) (by decide +kernel) (by decide +kernel)
theorem w_co_X6_enter : Cond.code yX6_enter cX6_enter 2 none ∈ gw := gw_in (i := 797) (by decide +kernel) (by decide +kernel)
theorem w_im_X6_leave : Cond.instanceMethod yX6_leave ∈ gw := gw_in (i := 800) (by decide +kernel) (by decide +kernel)
theorem w_co_X6_leave : Cond.code yX6_leave cX6_leave 1 none ∈ gw := gw_in (i := 801) (by decide +kernel) (by decide +kernel)
theorem w_im_X1_newPair : Cond.instanceMethod yX1_newPair ∈ gw := gw_in (i := 804) (by decide +kernel) (by decide +kernel)
theorem w_co_X1_newPair : Cond.code yX1_newPair cX1_newPair 5 (some FieldType.long) ∈ gw := gw_in (i := 805) (by decide +kernel) (by decide +kernel)
theorem w_ml_X1_37 : Cond.methodLink RX1 37 yX1_fillNext ∈ gw := gw_in (i := 806) (by decide +kernel) (by decide +kernel)
theorem w_im_X1_fillNext : Cond.instanceMethod yX1_fillNext ∈ gw := gw_in (i := 808) (by decide +kernel) (by decide +kernel)
theorem w_co_X1_fillNext : Cond.code yX1_fillNext cX1_fillNext 7 (some FieldType.int) ∈ gw := gw_in (i := 809) (by decide +kernel) (by decide +kernel)
theorem w_im_X1_newVar : Cond.instanceMethod yX1_newVar ∈ gw := gw_in (i := 812) (by decide +kernel) (by decide +kernel)
theorem w_co_X1_newVar : Cond.code yX1_newVar cX1_newVar 3 (some FieldType.long) ∈ gw := gw_in (i := 813) (by decide +kernel) (by decide +kernel)
theorem w_ml_X7_286 : Cond.methodLink RX7 286 yX7_fork ∈ gw := gw_in (i := 814) (by decide +kernel) (by decide +kernel)
theorem w_im_X7_fork : Cond.instanceMethod yX7_fork ∈ gw := gw_in (i := 816) (by decide +kernel) (by decide +kernel)
theorem w_co_X7_fork : Cond.code yX7_fork cX7_fork 6 none ∈ gw := gw_in (i := 817) (by decide +kernel) (by decide +kernel)
theorem w_kl_X7_303 : Cond.constantLong RX7 303 (-1) ∈ gw := gw_in (i := 818) (by decide +kernel) (by decide +kernel)
theorem w_ml_X7_305 : Cond.methodLink RX7 305 arraycopyName ∈ gw := gw_in (i := 819) (by decide +kernel) (by decide +kernel)
theorem w_im_X5_append : Cond.instanceMethod yX5_append ∈ gw := gw_in (i := 822) (by decide +kernel) (by decide +kernel)
theorem w_co_X5_append : Cond.code yX5_append cX5_append 2 none ∈ gw := gw_in (i := 823) (by decide +kernel) (by decide +kernel)
theorem w_ml_L_64 : Cond.methodLink RL 64 yL_turn ∈ gw := gw_in (i := 824) (by decide +kernel) (by decide +kernel)
theorem w_st_L_turn : Cond.static yL_turn ∈ gw := gw_in (i := 825) (by decide +kernel) (by decide +kernel)
theorem w_cw_L_turn : Cond.codeWith yL_turn cL_turn 4 (some .int) [(0, 9, 12, 21)] ∈ gw := gw_in (i := 826) (by decide +kernel) (by decide +kernel)
theorem w_ml_L_23 : Cond.methodLink RL 23 yX7_turn ∈ gw := gw_in (i := 827) (by decide +kernel) (by decide +kernel)
theorem w_im_X7_turn : Cond.instanceMethod yX7_turn ∈ gw := gw_in (i := 828) (by decide +kernel) (by decide +kernel)
theorem w_se_X7_X7_turn : Cond.selects RX7 yX7_turn yX7_turn ∈ gw := gw_in (i := 829) (by decide +kernel) (by decide +kernel)
theorem w_co_X7_turn : Cond.code yX7_turn cX7_turn 6 (some FieldType.int) ∈ gw := gw_in (i := 830) (by decide +kernel) (by decide +kernel)
theorem w_ml_L_68 : Cond.methodLink RL 68 yL_thread ∈ gw := gw_in (i := 831) (by decide +kernel) (by decide +kernel)
theorem w_st_L_thread : Cond.static yL_thread ∈ gw := gw_in (i := 832) (by decide +kernel) (by decide +kernel)
theorem w_cw_L_thread : Cond.codeWith yL_thread cL_thread 5 (some .int) [(0, 10, 13, 19), (0, 10, 17, 21)] ∈ gw := gw_in (i := 833) (by decide +kernel) (by decide +kernel)
theorem w_ml_L_27 : Cond.methodLink RL 27 yX7_thread ∈ gw := gw_in (i := 834) (by decide +kernel) (by decide +kernel)
theorem w_im_X7_thread : Cond.instanceMethod yX7_thread ∈ gw := gw_in (i := 835) (by decide +kernel) (by decide +kernel)
theorem w_se_X7_X7_thread : Cond.selects RX7 yX7_thread yX7_thread ∈ gw := gw_in (i := 836) (by decide +kernel) (by decide +kernel)
theorem w_co_X7_thread : Cond.code yX7_thread cX7_thread 4 (some FieldType.int) ∈ gw := gw_in (i := 837) (by decide +kernel) (by decide +kernel)
theorem w_ml_L_71 : Cond.methodLink RL 71 yL_register ∈ gw := gw_in (i := 838) (by decide +kernel) (by decide +kernel)
theorem w_st_L_register : Cond.static yL_register ∈ gw := gw_in (i := 839) (by decide +kernel) (by decide +kernel)
theorem w_cw_L_register : Cond.codeWith yL_register cL_register 5 (some .int) [(0, 9, 12, 19)] ∈ gw := gw_in (i := 840) (by decide +kernel) (by decide +kernel)
theorem w_ml_L_30 : Cond.methodLink RL 30 yX7_register ∈ gw := gw_in (i := 841) (by decide +kernel) (by decide +kernel)
theorem w_im_X7_register : Cond.instanceMethod yX7_register ∈ gw := gw_in (i := 842) (by decide +kernel) (by decide +kernel)
theorem w_se_X7_X7_register : Cond.selects RX7 yX7_register yX7_register ∈ gw := gw_in (i := 843) (by decide +kernel) (by decide +kernel)
theorem w_co_X7_register : Cond.code yX7_register cX7_register 3 (some FieldType.long) ∈ gw := gw_in (i := 844) (by decide +kernel) (by decide +kernel)
theorem w_ml_L_74 : Cond.methodLink RL 74 yL_global ∈ gw := gw_in (i := 845) (by decide +kernel) (by decide +kernel)
theorem w_st_L_global : Cond.static yL_global ∈ gw := gw_in (i := 846) (by decide +kernel) (by decide +kernel)
theorem w_cw_L_global : Cond.codeWith yL_global cL_global 4 (some .int) [(0, 8, 11, 19)] ∈ gw := gw_in (i := 847) (by decide +kernel) (by decide +kernel)
theorem w_ml_L_34 : Cond.methodLink RL 34 yX7_global ∈ gw := gw_in (i := 848) (by decide +kernel) (by decide +kernel)
theorem w_im_X7_global : Cond.instanceMethod yX7_global ∈ gw := gw_in (i := 849) (by decide +kernel) (by decide +kernel)
theorem w_se_X7_X7_global : Cond.selects RX7 yX7_global yX7_global ∈ gw := gw_in (i := 850) (by decide +kernel) (by decide +kernel)
theorem w_co_X7_global : Cond.code yX7_global cX7_global 2 (some FieldType.long) ∈ gw := gw_in (i := 851) (by decide +kernel) (by decide +kernel)
theorem w_ml_L_77 : Cond.methodLink RL 77 yL_place ∈ gw := gw_in (i := 852) (by decide +kernel) (by decide +kernel)
theorem w_st_L_place : Cond.static yL_place ∈ gw := gw_in (i := 853) (by decide +kernel) (by decide +kernel)
theorem w_cw_L_place : Cond.codeWith yL_place cL_place 5 (some .int) [(0, 9, 12, 19), (0, 9, 16, 21)] ∈ gw := gw_in (i := 854) (by decide +kernel) (by decide +kernel)
theorem w_ml_L_38 : Cond.methodLink RL 38 yX7_place ∈ gw := gw_in (i := 855) (by decide +kernel) (by decide +kernel)
theorem w_im_X7_place : Cond.instanceMethod yX7_place ∈ gw := gw_in (i := 856) (by decide +kernel) (by decide +kernel)
theorem w_se_X7_X7_place : Cond.selects RX7 yX7_place yX7_place ∈ gw := gw_in (i := 857) (by decide +kernel) (by decide +kernel)
theorem w_co_X7_place : Cond.code yX7_place cX7_place 3 (some FieldType.long) ∈ gw := gw_in (i := 858) (by decide +kernel) (by decide +kernel)
theorem w_ml_L_80 : Cond.methodLink RL 80 yL_output ∈ gw := gw_in (i := 859) (by decide +kernel) (by decide +kernel)
theorem w_st_L_output : Cond.static yL_output ∈ gw := gw_in (i := 860) (by decide +kernel) (by decide +kernel)
theorem w_cw_L_output : Cond.codeWith yL_output cL_output 4 (some .int) [(0, 9, 12, 44)] ∈ gw := gw_in (i := 861) (by decide +kernel) (by decide +kernel)
theorem w_cl_L_44 : Cond.classLink RL 44 "java/lang/IndexOutOfBoundsException" ∈ gw := gw_in (i := 862) (by decide +kernel) (by decide +kernel)
theorem w_ml_L_41 : Cond.methodLink RL 41 yX7_output ∈ gw := gw_in (i := 863) (by decide +kernel) (by decide +kernel)
theorem w_im_X7_output : Cond.instanceMethod yX7_output ∈ gw := gw_in (i := 864) (by decide +kernel) (by decide +kernel)
theorem w_se_X7_X7_output : Cond.selects RX7 yX7_output yX7_output ∈ gw := gw_in (i := 865) (by decide +kernel) (by decide +kernel)
theorem w_co_X7_output : Cond.code yX7_output cX7_output 2 (some FieldType.int) ∈ gw := gw_in (i := 866) (by decide +kernel) (by decide +kernel)
theorem w_cl_X7_138 : Cond.classLink RX7 138 "java/lang/IndexOutOfBoundsException" ∈ gw := gw_in (i := 867) (by decide +kernel) (by decide +kernel)
theorem w_is_java_lang_IndexOutOfBoundsException : Cond.instantiable "java/lang/IndexOutOfBoundsException" 6 ∈ gw := gw_in (i := 868) (by decide +kernel) (by decide +kernel)
theorem w_se_java_lang_IndexOutOfBoundsException_Throwable_fillInStackTrace_161 : Cond.selects "java/lang/IndexOutOfBoundsException" (⟨"java/lang/Throwable", "fillInStackTrace", "(I)Ljava/lang/Throwable;"⟩ : MethodName) (⟨"java/lang/Throwable", "fillInStackTrace", "(I)Ljava/lang/Throwable;"⟩ : MethodName) ∈ gw := gw_in (i := 870) (by decide +kernel) (by decide +kernel)
theorem w_ml_X7_140 : Cond.methodLink RX7 140 (⟨"java/lang/IndexOutOfBoundsException", "<init>", "()V"⟩ : MethodName) ∈ gw := gw_in (i := 876) (by decide +kernel) (by decide +kernel)
theorem w_im_IndexOutOfBoundsException__init_ : Cond.instanceMethod (⟨"java/lang/IndexOutOfBoundsException", "<init>", "()V"⟩ : MethodName) ∈ gw := gw_in (i := 877) (by decide +kernel) (by decide +kernel)
theorem w_co_IndexOutOfBoundsException__init_ : Cond.code (⟨"java/lang/IndexOutOfBoundsException", "<init>", "()V"⟩ : MethodName) prog_20_method_1_code 1 none ∈ gw := gw_in (i := 878) (by decide +kernel) (by decide +kernel)
theorem w_ml_java_lang_IndexOutOfBoundsException_1 : Cond.methodLink "java/lang/IndexOutOfBoundsException" 1 (⟨"java/lang/RuntimeException", "<init>", "()V"⟩ : MethodName) ∈ gw := gw_in (i := 879) (by decide +kernel) (by decide +kernel)
theorem w_im_X5_numberAt : Cond.instanceMethod yX5_numberAt ∈ gw := gw_in (i := 884) (by decide +kernel) (by decide +kernel)
theorem w_co_X5_numberAt : Cond.code yX5_numberAt cX5_numberAt 2 (some FieldType.int) ∈ gw := gw_in (i := 885) (by decide +kernel) (by decide +kernel)
theorem w_cl_L_47 : Cond.classLink RL 47 RX9 ∈ gw := gw_in (i := 886) (by decide +kernel) (by decide +kernel)
theorem w_is_X9 : Cond.instantiable RX9 22 ∈ gw := gw_in (i := 887) (by decide +kernel) (by decide +kernel)
theorem w_ml_L_49 : Cond.methodLink RL 49 yX9_init ∈ gw := gw_in (i := 888) (by decide +kernel) (by decide +kernel)
theorem w_im_X9_init : Cond.instanceMethod yX9_init ∈ gw := gw_in (i := 889) (by decide +kernel) (by decide +kernel)
theorem w_co_X9_init : Cond.code yX9_init cX9_init 1 none ∈ gw := gw_in (i := 890) (by decide +kernel) (by decide +kernel)
theorem w_ml_X9_1 : Cond.methodLink RX9 1 objectInit ∈ gw := gw_in (i := 891) (by decide +kernel) (by decide +kernel)
theorem w_cl_X9_26 : Cond.classLink RX9 26 RX8 ∈ gw := gw_in (i := 892) (by decide +kernel) (by decide +kernel)
theorem w_is_X8 : Cond.instantiable RX8 18 ∈ gw := gw_in (i := 894) (by decide +kernel) (by decide +kernel)
theorem w_im_X8_init : Cond.instanceMethod yX8_init ∈ gw := gw_in (i := 896) (by decide +kernel) (by decide +kernel)
theorem w_co_X8_init : Cond.code yX8_init cX8_init 1 none ∈ gw := gw_in (i := 897) (by decide +kernel) (by decide +kernel)
theorem w_ml_X8_3 : Cond.methodLink RX8 3 objectInit ∈ gw := gw_in (i := 898) (by decide +kernel) (by decide +kernel)
theorem w_fl_X8_9 : Cond.fieldLink RX8 9 "AtomicRuntimeModel$Task" "state" "I" ∈ gw := gw_in (i := 899) (by decide +kernel) (by decide +kernel)
theorem w_fl_X9_208 : Cond.fieldLink RX9 208 "AtomicRuntimeModel$Task" "state" "I" ∈ gw := gw_in (i := 900) (by decide +kernel) (by decide +kernel)
theorem w_fl_X8_73 : Cond.fieldLink RX8 73 "AtomicRuntimeModel$Task" "code" "I" ∈ gw := gw_in (i := 901) (by decide +kernel) (by decide +kernel)
theorem w_fl_X9_254 : Cond.fieldLink RX9 254 "AtomicRuntimeModel$Task" "code" "I" ∈ gw := gw_in (i := 902) (by decide +kernel) (by decide +kernel)
theorem w_fl_X8_60 : Cond.fieldLink RX8 60 "AtomicRuntimeModel$Task" "pc" "I" ∈ gw := gw_in (i := 903) (by decide +kernel) (by decide +kernel)
theorem w_fl_X9_69 : Cond.fieldLink RX9 69 "AtomicRuntimeModel$Task" "pc" "I" ∈ gw := gw_in (i := 904) (by decide +kernel) (by decide +kernel)
theorem w_fl_X8_50 : Cond.fieldLink RX8 50 "AtomicRuntimeModel$Task" "calls" "I" ∈ gw := gw_in (i := 905) (by decide +kernel) (by decide +kernel)
theorem w_fl_X9_124 : Cond.fieldLink RX9 124 "AtomicRuntimeModel$Task" "calls" "I" ∈ gw := gw_in (i := 906) (by decide +kernel) (by decide +kernel)
theorem w_fl_X8_47 : Cond.fieldLink RX8 47 "AtomicRuntimeModel$Task" "nests" "I" ∈ gw := gw_in (i := 907) (by decide +kernel) (by decide +kernel)
theorem w_fl_X9_121 : Cond.fieldLink RX9 121 "AtomicRuntimeModel$Task" "nests" "I" ∈ gw := gw_in (i := 908) (by decide +kernel) (by decide +kernel)
theorem w_fl_X8_67 : Cond.fieldLink RX8 67 "AtomicRuntimeModel$Task" "reads" "I" ∈ gw := gw_in (i := 909) (by decide +kernel) (by decide +kernel)
theorem w_fl_X9_149 : Cond.fieldLink RX9 149 "AtomicRuntimeModel$Task" "reads" "I" ∈ gw := gw_in (i := 910) (by decide +kernel) (by decide +kernel)
theorem w_fl_X8_53 : Cond.fieldLink RX8 53 "AtomicRuntimeModel$Task" "writes" "I" ∈ gw := gw_in (i := 911) (by decide +kernel) (by decide +kernel)
theorem w_fl_X9_172 : Cond.fieldLink RX9 172 "AtomicRuntimeModel$Task" "writes" "I" ∈ gw := gw_in (i := 912) (by decide +kernel) (by decide +kernel)
theorem w_fl_X8_70 : Cond.fieldLink RX8 70 "AtomicRuntimeModel$Task" "start" "I" ∈ gw := gw_in (i := 913) (by decide +kernel) (by decide +kernel)
theorem w_fl_X9_155 : Cond.fieldLink RX9 155 "AtomicRuntimeModel$Task" "start" "I" ∈ gw := gw_in (i := 914) (by decide +kernel) (by decide +kernel)
theorem w_fl_X8_15 : Cond.fieldLink RX8 15 "AtomicRuntimeModel$Task" "register" "[J" ∈ gw := gw_in (i := 915) (by decide +kernel) (by decide +kernel)
theorem w_fl_X9_105 : Cond.fieldLink RX9 105 "AtomicRuntimeModel$Task" "register" "[J" ∈ gw := gw_in (i := 916) (by decide +kernel) (by decide +kernel)
theorem w_fl_X8_19 : Cond.fieldLink RX8 19 "AtomicRuntimeModel$Task" "saved" "[J" ∈ gw := gw_in (i := 917) (by decide +kernel) (by decide +kernel)
theorem w_fl_X9_233 : Cond.fieldLink RX9 233 "AtomicRuntimeModel$Task" "saved" "[J" ∈ gw := gw_in (i := 918) (by decide +kernel) (by decide +kernel)
theorem w_fl_X8_22 : Cond.fieldLink RX8 22 "AtomicRuntimeModel$Task" "back" "[I" ∈ gw := gw_in (i := 919) (by decide +kernel) (by decide +kernel)
theorem w_fl_X9_127 : Cond.fieldLink RX9 127 "AtomicRuntimeModel$Task" "back" "[I" ∈ gw := gw_in (i := 920) (by decide +kernel) (by decide +kernel)
theorem w_fl_X8_26 : Cond.fieldLink RX8 26 "AtomicRuntimeModel$Task" "sort" "[I" ∈ gw := gw_in (i := 921) (by decide +kernel) (by decide +kernel)
theorem w_fl_X9_184 : Cond.fieldLink RX9 184 "AtomicRuntimeModel$Task" "sort" "[I" ∈ gw := gw_in (i := 922) (by decide +kernel) (by decide +kernel)
theorem w_fl_X8_29 : Cond.fieldLink RX8 29 "AtomicRuntimeModel$Task" "alt" "[I" ∈ gw := gw_in (i := 923) (by decide +kernel) (by decide +kernel)
theorem w_fl_X8_32 : Cond.fieldLink RX8 32 "AtomicRuntimeModel$Task" "callsThen" "[I" ∈ gw := gw_in (i := 924) (by decide +kernel) (by decide +kernel)
theorem w_fl_X9_130 : Cond.fieldLink RX9 130 "AtomicRuntimeModel$Task" "callsThen" "[I" ∈ gw := gw_in (i := 925) (by decide +kernel) (by decide +kernel)
theorem w_fl_X8_35 : Cond.fieldLink RX8 35 "AtomicRuntimeModel$Task" "writesThen" "[I" ∈ gw := gw_in (i := 926) (by decide +kernel) (by decide +kernel)
theorem w_fl_X8_38 : Cond.fieldLink RX8 38 "AtomicRuntimeModel$Task" "read" "[J" ∈ gw := gw_in (i := 927) (by decide +kernel) (by decide +kernel)
theorem w_fl_X9_152 : Cond.fieldLink RX9 152 "AtomicRuntimeModel$Task" "read" "[J" ∈ gw := gw_in (i := 928) (by decide +kernel) (by decide +kernel)
theorem w_fl_X8_41 : Cond.fieldLink RX8 41 "AtomicRuntimeModel$Task" "written" "[J" ∈ gw := gw_in (i := 929) (by decide +kernel) (by decide +kernel)
theorem w_fl_X9_175 : Cond.fieldLink RX9 175 "AtomicRuntimeModel$Task" "written" "[J" ∈ gw := gw_in (i := 930) (by decide +kernel) (by decide +kernel)
theorem w_fl_X8_44 : Cond.fieldLink RX8 44 "AtomicRuntimeModel$Task" "value" "[J" ∈ gw := gw_in (i := 931) (by decide +kernel) (by decide +kernel)
theorem w_fl_X9_178 : Cond.fieldLink RX9 178 "AtomicRuntimeModel$Task" "value" "[J" ∈ gw := gw_in (i := 932) (by decide +kernel) (by decide +kernel)
theorem w_ac_boolean : Cond.arrayClass .boolean ∈ gw := gw_in (i := 970) (by decide +kernel) (by decide +kernel)
theorem w_fl_X9_59 : Cond.fieldLink RX9 59 "AtomicRuntimeModel" "thrown" "I" ∈ gw := gw_in (i := 971) (by decide +kernel) (by decide +kernel)
theorem w_fl_X9_72 : Cond.fieldLink RX9 72 "AtomicRuntimeModel" "size" "I" ∈ gw := gw_in (i := 972) (by decide +kernel) (by decide +kernel)
theorem w_fl_X9_7 : Cond.fieldLink RX9 7 "AtomicRuntimeModel" "tasks" "I" ∈ gw := gw_in (i := 973) (by decide +kernel) (by decide +kernel)
theorem w_fl_X9_143 : Cond.fieldLink RX9 143 "AtomicRuntimeModel" "used" "I" ∈ gw := gw_in (i := 974) (by decide +kernel) (by decide +kernel)
theorem w_fl_X9_161 : Cond.fieldLink RX9 161 "AtomicRuntimeModel" "clock" "I" ∈ gw := gw_in (i := 975) (by decide +kernel) (by decide +kernel)
theorem w_fl_X9_158 : Cond.fieldLink RX9 158 "AtomicRuntimeModel" "aborts" "I" ∈ gw := gw_in (i := 976) (by decide +kernel) (by decide +kernel)
theorem w_fl_X9_226 : Cond.fieldLink RX9 226 "AtomicRuntimeModel" "collections" "I" ∈ gw := gw_in (i := 977) (by decide +kernel) (by decide +kernel)
theorem w_fl_X9_66 : Cond.fieldLink RX9 66 "AtomicRuntimeModel" "steps" "I" ∈ gw := gw_in (i := 978) (by decide +kernel) (by decide +kernel)
theorem w_fl_X9_216 : Cond.fieldLink RX9 216 "AtomicRuntimeModel" "printed" "I" ∈ gw := gw_in (i := 979) (by decide +kernel) (by decide +kernel)
theorem w_fl_X9_13 : Cond.fieldLink RX9 13 "AtomicRuntimeModel" "op" "[I" ∈ gw := gw_in (i := 980) (by decide +kernel) (by decide +kernel)
theorem w_fl_X9_17 : Cond.fieldLink RX9 17 "AtomicRuntimeModel" "a" "[I" ∈ gw := gw_in (i := 981) (by decide +kernel) (by decide +kernel)
theorem w_fl_X9_20 : Cond.fieldLink RX9 20 "AtomicRuntimeModel" "b" "[I" ∈ gw := gw_in (i := 982) (by decide +kernel) (by decide +kernel)
theorem w_fl_X9_23 : Cond.fieldLink RX9 23 "AtomicRuntimeModel" "c" "[I" ∈ gw := gw_in (i := 983) (by decide +kernel) (by decide +kernel)
theorem w_fl_X9_28 : Cond.fieldLink RX9 28 "AtomicRuntimeModel" "task" "[LAtomicRuntimeModel$Task;" ∈ gw := gw_in (i := 984) (by decide +kernel) (by decide +kernel)
theorem w_fl_X9_32 : Cond.fieldLink RX9 32 "AtomicRuntimeModel" "global" "[J" ∈ gw := gw_in (i := 985) (by decide +kernel) (by decide +kernel)
theorem w_fl_X9_36 : Cond.fieldLink RX9 36 "AtomicRuntimeModel" "first" "[J" ∈ gw := gw_in (i := 986) (by decide +kernel) (by decide +kernel)
theorem w_fl_X9_39 : Cond.fieldLink RX9 39 "AtomicRuntimeModel" "second" "[J" ∈ gw := gw_in (i := 987) (by decide +kernel) (by decide +kernel)
theorem w_fl_X9_42 : Cond.fieldLink RX9 42 "AtomicRuntimeModel" "pair" "[Z" ∈ gw := gw_in (i := 988) (by decide +kernel) (by decide +kernel)
theorem w_fl_X9_46 : Cond.fieldLink RX9 46 "AtomicRuntimeModel" "kept" "[Z" ∈ gw := gw_in (i := 989) (by decide +kernel) (by decide +kernel)
theorem w_fl_X9_49 : Cond.fieldLink RX9 49 "AtomicRuntimeModel" "version" "[I" ∈ gw := gw_in (i := 990) (by decide +kernel) (by decide +kernel)
theorem w_fl_X9_52 : Cond.fieldLink RX9 52 "AtomicRuntimeModel" "to" "[I" ∈ gw := gw_in (i := 991) (by decide +kernel) (by decide +kernel)
theorem w_fl_X9_55 : Cond.fieldLink RX9 55 "AtomicRuntimeModel" "output" "[I" ∈ gw := gw_in (i := 992) (by decide +kernel) (by decide +kernel)
theorem w_ml_L_56 : Cond.methodLink RL 56 yX9_thrown ∈ gw := gw_in (i := 1038) (by decide +kernel) (by decide +kernel)
theorem w_im_X9_thrown : Cond.instanceMethod yX9_thrown ∈ gw := gw_in (i := 1039) (by decide +kernel) (by decide +kernel)
theorem w_se_X9_X9_thrown : Cond.selects RX9 yX9_thrown yX9_thrown ∈ gw := gw_in (i := 1040) (by decide +kernel) (by decide +kernel)
theorem w_co_X9_thrown : Cond.code yX9_thrown cX9_thrown 1 (some FieldType.int) ∈ gw := gw_in (i := 1041) (by decide +kernel) (by decide +kernel)
theorem w_ml_L_55 : Cond.methodLink RL 55 yX9_put ∈ gw := gw_in (i := 1042) (by decide +kernel) (by decide +kernel)
theorem w_im_X9_put : Cond.instanceMethod yX9_put ∈ gw := gw_in (i := 1043) (by decide +kernel) (by decide +kernel)
theorem w_se_X9_X9_put : Cond.selects RX9 yX9_put yX9_put ∈ gw := gw_in (i := 1044) (by decide +kernel) (by decide +kernel)
theorem w_co_X9_put : Cond.code yX9_put cX9_put 5 (some FieldType.int) ∈ gw := gw_in (i := 1045) (by decide +kernel) (by decide +kernel)
theorem w_ml_X9_243 : Cond.methodLink RX9 243 yX9_fail ∈ gw := gw_in (i := 1046) (by decide +kernel) (by decide +kernel)
theorem w_im_X9_fail : Cond.instanceMethod yX9_fail ∈ gw := gw_in (i := 1048) (by decide +kernel) (by decide +kernel)
theorem w_co_X9_fail : Cond.code yX9_fail cX9_fail 2 (some FieldType.int) ∈ gw := gw_in (i := 1049) (by decide +kernel) (by decide +kernel)
theorem w_ml_L_63 : Cond.methodLink RL 63 yX9_run ∈ gw := gw_in (i := 1050) (by decide +kernel) (by decide +kernel)
theorem w_im_X9_run : Cond.instanceMethod yX9_run ∈ gw := gw_in (i := 1051) (by decide +kernel) (by decide +kernel)
theorem w_se_X9_X9_run : Cond.selects RX9 yX9_run yX9_run ∈ gw := gw_in (i := 1052) (by decide +kernel) (by decide +kernel)
theorem w_co_X9_run : Cond.code yX9_run cX9_run 4 (some FieldType.int) ∈ gw := gw_in (i := 1053) (by decide +kernel) (by decide +kernel)
theorem w_ml_X9_247 : Cond.methodLink RX9 247 yX9_noTask ∈ gw := gw_in (i := 1054) (by decide +kernel) (by decide +kernel)
theorem w_im_X9_noTask : Cond.instanceMethod yX9_noTask ∈ gw := gw_in (i := 1056) (by decide +kernel) (by decide +kernel)
theorem w_co_X9_noTask : Cond.code yX9_noTask cX9_noTask 2 (some FieldType.boolean) ∈ gw := gw_in (i := 1057) (by decide +kernel) (by decide +kernel)
theorem w_ml_X9_250 : Cond.methodLink RX9 250 yX9_step ∈ gw := gw_in (i := 1058) (by decide +kernel) (by decide +kernel)
theorem w_im_X9_step : Cond.instanceMethod yX9_step ∈ gw := gw_in (i := 1060) (by decide +kernel) (by decide +kernel)
theorem w_co_X9_step : Cond.code yX9_step cX9_step 4 none ∈ gw := gw_in (i := 1061) (by decide +kernel) (by decide +kernel)
theorem w_ml_X9_75 : Cond.methodLink RX9 75 yX9_known ∈ gw := gw_in (i := 1062) (by decide +kernel) (by decide +kernel)
theorem w_im_X9_known : Cond.instanceMethod yX9_known ∈ gw := gw_in (i := 1064) (by decide +kernel) (by decide +kernel)
theorem w_co_X9_known : Cond.code yX9_known cX9_known 7 (some FieldType.int) ∈ gw := gw_in (i := 1065) (by decide +kernel) (by decide +kernel)
theorem w_ml_X9_83 : Cond.methodLink RX9 83 yX9_wrong ∈ gw := gw_in (i := 1066) (by decide +kernel) (by decide +kernel)
theorem w_im_X9_wrong : Cond.instanceMethod yX9_wrong ∈ gw := gw_in (i := 1068) (by decide +kernel) (by decide +kernel)
theorem w_co_X9_wrong : Cond.code yX9_wrong cX9_wrong 8 (some FieldType.boolean) ∈ gw := gw_in (i := 1069) (by decide +kernel) (by decide +kernel)
theorem w_ml_X9_101 : Cond.methodLink RX9 101 yX9_noRegister ∈ gw := gw_in (i := 1070) (by decide +kernel) (by decide +kernel)
theorem w_st_X9_noRegister : Cond.static yX9_noRegister ∈ gw := gw_in (i := 1071) (by decide +kernel) (by decide +kernel)
theorem w_co_X9_noRegister : Cond.code yX9_noRegister cX9_noRegister 1 (some FieldType.boolean) ∈ gw := gw_in (i := 1072) (by decide +kernel) (by decide +kernel)
theorem w_ml_X9_108 : Cond.methodLink RX9 108 yX9_isInt ∈ gw := gw_in (i := 1073) (by decide +kernel) (by decide +kernel)
theorem w_st_X9_isInt : Cond.static yX9_isInt ∈ gw := gw_in (i := 1074) (by decide +kernel) (by decide +kernel)
theorem w_co_X9_isInt : Cond.code yX9_isInt cX9_isInt 2 (some FieldType.boolean) ∈ gw := gw_in (i := 1075) (by decide +kernel) (by decide +kernel)
theorem w_kl_X9_62 : Cond.constantLong RX9 62 (8589934592) ∈ gw := gw_in (i := 1076) (by decide +kernel) (by decide +kernel)
theorem w_ml_X9_112 : Cond.methodLink RX9 112 yX9_isPair ∈ gw := gw_in (i := 1077) (by decide +kernel) (by decide +kernel)
theorem w_st_X9_isPair : Cond.static yX9_isPair ∈ gw := gw_in (i := 1078) (by decide +kernel) (by decide +kernel)
theorem w_co_X9_isPair : Cond.code yX9_isPair cX9_isPair 2 (some FieldType.boolean) ∈ gw := gw_in (i := 1079) (by decide +kernel) (by decide +kernel)
theorem w_kl_X9_64 : Cond.constantLong RX9 64 (17179869184) ∈ gw := gw_in (i := 1080) (by decide +kernel) (by decide +kernel)
theorem w_ml_X9_115 : Cond.methodLink RX9 115 yX9_isVar ∈ gw := gw_in (i := 1081) (by decide +kernel) (by decide +kernel)
theorem w_st_X9_isVar : Cond.static yX9_isVar ∈ gw := gw_in (i := 1082) (by decide +kernel) (by decide +kernel)
theorem w_co_X9_isVar : Cond.code yX9_isVar cX9_isVar 2 (some FieldType.boolean) ∈ gw := gw_in (i := 1083) (by decide +kernel) (by decide +kernel)
theorem w_ml_X9_118 : Cond.methodLink RX9 118 yX9_noGlobal ∈ gw := gw_in (i := 1084) (by decide +kernel) (by decide +kernel)
theorem w_st_X9_noGlobal : Cond.static yX9_noGlobal ∈ gw := gw_in (i := 1085) (by decide +kernel) (by decide +kernel)
theorem w_co_X9_noGlobal : Cond.code yX9_noGlobal cX9_noGlobal 1 (some FieldType.boolean) ∈ gw := gw_in (i := 1086) (by decide +kernel) (by decide +kernel)
theorem w_ml_X9_87 : Cond.methodLink RX9 87 yX8_atomic ∈ gw := gw_in (i := 1087) (by decide +kernel) (by decide +kernel)
theorem w_im_X8_atomic : Cond.instanceMethod yX8_atomic ∈ gw := gw_in (i := 1088) (by decide +kernel) (by decide +kernel)
theorem w_se_X8_X8_atomic : Cond.selects RX8 yX8_atomic yX8_atomic ∈ gw := gw_in (i := 1089) (by decide +kernel) (by decide +kernel)
theorem w_co_X8_atomic : Cond.code yX8_atomic cX8_atomic 2 (some FieldType.int) ∈ gw := gw_in (i := 1090) (by decide +kernel) (by decide +kernel)
theorem w_ml_X9_91 : Cond.methodLink RX9 91 yX9_plain ∈ gw := gw_in (i := 1091) (by decide +kernel) (by decide +kernel)
theorem w_im_X9_plain : Cond.instanceMethod yX9_plain ∈ gw := gw_in (i := 1093) (by decide +kernel) (by decide +kernel)
theorem w_co_X9_plain : Cond.code yX9_plain cX9_plain 7 (some FieldType.int) ∈ gw := gw_in (i := 1094) (by decide +kernel) (by decide +kernel)
theorem w_ml_X9_79 : Cond.methodLink RX9 79 yX8_end ∈ gw := gw_in (i := 1095) (by decide +kernel) (by decide +kernel)
theorem w_im_X8_end : Cond.instanceMethod yX8_end ∈ gw := gw_in (i := 1096) (by decide +kernel) (by decide +kernel)
theorem w_se_X8_X8_end : Cond.selects RX8 yX8_end yX8_end ∈ gw := gw_in (i := 1097) (by decide +kernel) (by decide +kernel)
theorem w_co_X8_end : Cond.code yX8_end cX8_end 3 none ∈ gw := gw_in (i := 1098) (by decide +kernel) (by decide +kernel)
theorem w_ml_X9_133 : Cond.methodLink RX9 133 yX9_made ∈ gw := gw_in (i := 1099) (by decide +kernel) (by decide +kernel)
theorem w_im_X9_made : Cond.instanceMethod yX9_made ∈ gw := gw_in (i := 1101) (by decide +kernel) (by decide +kernel)
theorem w_co_X9_made : Cond.code yX9_made cX9_made 6 (some FieldType.int) ∈ gw := gw_in (i := 1102) (by decide +kernel) (by decide +kernel)
theorem w_ml_X9_146 : Cond.methodLink RX9 146 yX9_gather ∈ gw := gw_in (i := 1103) (by decide +kernel) (by decide +kernel)
theorem w_im_X9_gather : Cond.instanceMethod yX9_gather ∈ gw := gw_in (i := 1105) (by decide +kernel) (by decide +kernel)
theorem w_co_X9_gather : Cond.code yX9_gather cX9_gather 5 none ∈ gw := gw_in (i := 1106) (by decide +kernel) (by decide +kernel)
theorem w_ml_X9_229 : Cond.methodLink RX9 229 yX9_reachRow ∈ gw := gw_in (i := 1107) (by decide +kernel) (by decide +kernel)
theorem w_im_X9_reachRow : Cond.instanceMethod yX9_reachRow ∈ gw := gw_in (i := 1109) (by decide +kernel) (by decide +kernel)
theorem w_co_X9_reachRow : Cond.code yX9_reachRow cX9_reachRow 5 (some FieldType.boolean) ∈ gw := gw_in (i := 1110) (by decide +kernel) (by decide +kernel)
theorem w_ml_X9_219 : Cond.methodLink RX9 219 yX9_reach ∈ gw := gw_in (i := 1111) (by decide +kernel) (by decide +kernel)
theorem w_im_X9_reach : Cond.instanceMethod yX9_reach ∈ gw := gw_in (i := 1113) (by decide +kernel) (by decide +kernel)
theorem w_co_X9_reach : Cond.code yX9_reach cX9_reach 3 (some FieldType.boolean) ∈ gw := gw_in (i := 1114) (by decide +kernel) (by decide +kernel)
theorem w_ml_X9_137 : Cond.methodLink RX9 137 yX9_place ∈ gw := gw_in (i := 1115) (by decide +kernel) (by decide +kernel)
theorem w_st_X9_place : Cond.static yX9_place ∈ gw := gw_in (i := 1116) (by decide +kernel) (by decide +kernel)
theorem w_co_X9_place : Cond.code yX9_place cX9_place 2 (some FieldType.int) ∈ gw := gw_in (i := 1117) (by decide +kernel) (by decide +kernel)
theorem w_ml_X9_236 : Cond.methodLink RX9 236 yX9_slide ∈ gw := gw_in (i := 1118) (by decide +kernel) (by decide +kernel)
theorem w_im_X9_slide : Cond.instanceMethod yX9_slide ∈ gw := gw_in (i := 1120) (by decide +kernel) (by decide +kernel)
theorem w_co_X9_slide : Cond.code yX9_slide cX9_slide 4 none ∈ gw := gw_in (i := 1121) (by decide +kernel) (by decide +kernel)
theorem w_ml_X9_222 : Cond.methodLink RX9 222 yX9_moved ∈ gw := gw_in (i := 1122) (by decide +kernel) (by decide +kernel)
theorem w_im_X9_moved : Cond.instanceMethod yX9_moved ∈ gw := gw_in (i := 1124) (by decide +kernel) (by decide +kernel)
theorem w_co_X9_moved : Cond.code yX9_moved cX9_moved 3 (some FieldType.long) ∈ gw := gw_in (i := 1125) (by decide +kernel) (by decide +kernel)
theorem w_ml_X9_239 : Cond.methodLink RX9 239 yX9_moveRow ∈ gw := gw_in (i := 1126) (by decide +kernel) (by decide +kernel)
theorem w_im_X9_moveRow : Cond.instanceMethod yX9_moveRow ∈ gw := gw_in (i := 1128) (by decide +kernel) (by decide +kernel)
theorem w_co_X9_moveRow : Cond.code yX9_moveRow cX9_moveRow 4 none ∈ gw := gw_in (i := 1129) (by decide +kernel) (by decide +kernel)
theorem w_kl_X9_141 : Cond.constantLong RX9 141 (2) ∈ gw := gw_in (i := 1130) (by decide +kernel) (by decide +kernel)
theorem w_ml_X9_94 : Cond.methodLink RX9 94 yX9_guarded ∈ gw := gw_in (i := 1131) (by decide +kernel) (by decide +kernel)
theorem w_im_X9_guarded : Cond.instanceMethod yX9_guarded ∈ gw := gw_in (i := 1133) (by decide +kernel) (by decide +kernel)
theorem w_co_X9_guarded : Cond.code yX9_guarded cX9_guarded 5 (some FieldType.int) ∈ gw := gw_in (i := 1134) (by decide +kernel) (by decide +kernel)
theorem w_ml_X9_168 : Cond.methodLink RX9 168 yX9_reading ∈ gw := gw_in (i := 1135) (by decide +kernel) (by decide +kernel)
theorem w_im_X9_reading : Cond.instanceMethod yX9_reading ∈ gw := gw_in (i := 1137) (by decide +kernel) (by decide +kernel)
theorem w_co_X9_reading : Cond.code yX9_reading cX9_reading 6 (some FieldType.int) ∈ gw := gw_in (i := 1138) (by decide +kernel) (by decide +kernel)
theorem w_ml_X9_195 : Cond.methodLink RX9 195 yX9_aborted ∈ gw := gw_in (i := 1139) (by decide +kernel) (by decide +kernel)
theorem w_im_X9_aborted : Cond.instanceMethod yX9_aborted ∈ gw := gw_in (i := 1141) (by decide +kernel) (by decide +kernel)
theorem w_co_X9_aborted : Cond.code yX9_aborted cX9_aborted 2 (some FieldType.int) ∈ gw := gw_in (i := 1142) (by decide +kernel) (by decide +kernel)
theorem w_ml_X9_164 : Cond.methodLink RX9 164 yX8_again ∈ gw := gw_in (i := 1143) (by decide +kernel) (by decide +kernel)
theorem w_im_X8_again : Cond.instanceMethod yX8_again ∈ gw := gw_in (i := 1144) (by decide +kernel) (by decide +kernel)
theorem w_se_X8_X8_again : Cond.selects RX8 yX8_again yX8_again ∈ gw := gw_in (i := 1145) (by decide +kernel) (by decide +kernel)
theorem w_co_X8_again : Cond.code yX8_again cX8_again 3 none ∈ gw := gw_in (i := 1146) (by decide +kernel) (by decide +kernel)
theorem w_ml_X8_63 : Cond.methodLink RX8 63 yX8_atomic ∈ gw := gw_in (i := 1147) (by decide +kernel) (by decide +kernel)
theorem w_ml_X8_56 : Cond.methodLink RX8 56 yX8_restore ∈ gw := gw_in (i := 1148) (by decide +kernel) (by decide +kernel)
theorem w_im_X8_restore : Cond.instanceMethod yX8_restore ∈ gw := gw_in (i := 1150) (by decide +kernel) (by decide +kernel)
theorem w_co_X8_restore : Cond.code yX8_restore cX8_restore 3 none ∈ gw := gw_in (i := 1151) (by decide +kernel) (by decide +kernel)
theorem w_ml_X9_205 : Cond.methodLink RX9 205 yX8_hasRead ∈ gw := gw_in (i := 1152) (by decide +kernel) (by decide +kernel)
theorem w_im_X8_hasRead : Cond.instanceMethod yX8_hasRead ∈ gw := gw_in (i := 1153) (by decide +kernel) (by decide +kernel)
theorem w_se_X8_X8_hasRead : Cond.selects RX8 yX8_hasRead yX8_hasRead ∈ gw := gw_in (i := 1154) (by decide +kernel) (by decide +kernel)
theorem w_co_X8_hasRead : Cond.code yX8_hasRead cX8_hasRead 4 (some FieldType.boolean) ∈ gw := gw_in (i := 1155) (by decide +kernel) (by decide +kernel)
theorem w_ml_X9_181 : Cond.methodLink RX9 181 yX8_nest ∈ gw := gw_in (i := 1156) (by decide +kernel) (by decide +kernel)
theorem w_im_X8_nest : Cond.instanceMethod yX8_nest ∈ gw := gw_in (i := 1157) (by decide +kernel) (by decide +kernel)
theorem w_se_X8_X8_nest : Cond.selects RX8 yX8_nest yX8_nest ∈ gw := gw_in (i := 1158) (by decide +kernel) (by decide +kernel)
theorem w_co_X8_nest : Cond.code yX8_nest cX8_nest 4 none ∈ gw := gw_in (i := 1159) (by decide +kernel) (by decide +kernel)
theorem w_ml_X9_187 : Cond.methodLink RX9 187 yX9_valid ∈ gw := gw_in (i := 1160) (by decide +kernel) (by decide +kernel)
theorem w_im_X9_valid : Cond.instanceMethod yX9_valid ∈ gw := gw_in (i := 1162) (by decide +kernel) (by decide +kernel)
theorem w_co_X9_valid : Cond.code yX9_valid cX9_valid 3 (some FieldType.boolean) ∈ gw := gw_in (i := 1163) (by decide +kernel) (by decide +kernel)
theorem w_ml_X9_191 : Cond.methodLink RX9 191 yX9_committed ∈ gw := gw_in (i := 1164) (by decide +kernel) (by decide +kernel)
theorem w_im_X9_committed : Cond.instanceMethod yX9_committed ∈ gw := gw_in (i := 1166) (by decide +kernel) (by decide +kernel)
theorem w_co_X9_committed : Cond.code yX9_committed cX9_committed 7 (some FieldType.int) ∈ gw := gw_in (i := 1167) (by decide +kernel) (by decide +kernel)
theorem w_ml_X9_198 : Cond.methodLink RX9 198 yX9_retried ∈ gw := gw_in (i := 1168) (by decide +kernel) (by decide +kernel)
theorem w_im_X9_retried : Cond.instanceMethod yX9_retried ∈ gw := gw_in (i := 1170) (by decide +kernel) (by decide +kernel)
theorem w_co_X9_retried : Cond.code yX9_retried cX9_retried 3 (some FieldType.int) ∈ gw := gw_in (i := 1171) (by decide +kernel) (by decide +kernel)
theorem w_ml_X9_211 : Cond.methodLink RX9 211 yX8_rollBack ∈ gw := gw_in (i := 1172) (by decide +kernel) (by decide +kernel)
theorem w_im_X8_rollBack : Cond.instanceMethod yX8_rollBack ∈ gw := gw_in (i := 1173) (by decide +kernel) (by decide +kernel)
theorem w_se_X8_X8_rollBack : Cond.selects RX8 yX8_rollBack yX8_rollBack ∈ gw := gw_in (i := 1174) (by decide +kernel) (by decide +kernel)
theorem w_co_X8_rollBack : Cond.code yX8_rollBack cX8_rollBack 2 none ∈ gw := gw_in (i := 1175) (by decide +kernel) (by decide +kernel)
theorem w_ml_X9_201 : Cond.methodLink RX9 201 yX9_thrownUp ∈ gw := gw_in (i := 1176) (by decide +kernel) (by decide +kernel)
theorem w_im_X9_thrownUp : Cond.instanceMethod yX9_thrownUp ∈ gw := gw_in (i := 1178) (by decide +kernel) (by decide +kernel)
theorem w_co_X9_thrownUp : Cond.code yX9_thrownUp cX9_thrownUp 4 (some FieldType.int) ∈ gw := gw_in (i := 1179) (by decide +kernel) (by decide +kernel)
theorem w_ml_X9_98 : Cond.methodLink RX9 98 yX9_outer ∈ gw := gw_in (i := 1180) (by decide +kernel) (by decide +kernel)
theorem w_im_X9_outer : Cond.instanceMethod yX9_outer ∈ gw := gw_in (i := 1182) (by decide +kernel) (by decide +kernel)
theorem w_co_X9_outer : Cond.code yX9_outer cX9_outer 7 (some FieldType.int) ∈ gw := gw_in (i := 1183) (by decide +kernel) (by decide +kernel)
theorem w_kl_X9_214 : Cond.constantLong RX9 214 (-1) ∈ gw := gw_in (i := 1184) (by decide +kernel) (by decide +kernel)
theorem w_ml_L_67 : Cond.methodLink RL 67 yX9_turn ∈ gw := gw_in (i := 1185) (by decide +kernel) (by decide +kernel)
theorem w_im_X9_turn : Cond.instanceMethod yX9_turn ∈ gw := gw_in (i := 1186) (by decide +kernel) (by decide +kernel)
theorem w_se_X9_X9_turn : Cond.selects RX9 yX9_turn yX9_turn ∈ gw := gw_in (i := 1187) (by decide +kernel) (by decide +kernel)
theorem w_co_X9_turn : Cond.code yX9_turn cX9_turn 5 (some FieldType.int) ∈ gw := gw_in (i := 1188) (by decide +kernel) (by decide +kernel)
theorem w_ml_L_70 : Cond.methodLink RL 70 yX9_thread ∈ gw := gw_in (i := 1189) (by decide +kernel) (by decide +kernel)
theorem w_im_X9_thread : Cond.instanceMethod yX9_thread ∈ gw := gw_in (i := 1190) (by decide +kernel) (by decide +kernel)
theorem w_se_X9_X9_thread : Cond.selects RX9 yX9_thread yX9_thread ∈ gw := gw_in (i := 1191) (by decide +kernel) (by decide +kernel)
theorem w_co_X9_thread : Cond.code yX9_thread cX9_thread 4 (some FieldType.int) ∈ gw := gw_in (i := 1192) (by decide +kernel) (by decide +kernel)
theorem w_ml_L_73 : Cond.methodLink RL 73 yX9_register ∈ gw := gw_in (i := 1193) (by decide +kernel) (by decide +kernel)
theorem w_im_X9_register : Cond.instanceMethod yX9_register ∈ gw := gw_in (i := 1194) (by decide +kernel) (by decide +kernel)
theorem w_se_X9_X9_register : Cond.selects RX9 yX9_register yX9_register ∈ gw := gw_in (i := 1195) (by decide +kernel) (by decide +kernel)
theorem w_co_X9_register : Cond.code yX9_register cX9_register 3 (some FieldType.long) ∈ gw := gw_in (i := 1196) (by decide +kernel) (by decide +kernel)
theorem w_ml_L_76 : Cond.methodLink RL 76 yX9_global ∈ gw := gw_in (i := 1197) (by decide +kernel) (by decide +kernel)
theorem w_im_X9_global : Cond.instanceMethod yX9_global ∈ gw := gw_in (i := 1198) (by decide +kernel) (by decide +kernel)
theorem w_se_X9_X9_global : Cond.selects RX9 yX9_global yX9_global ∈ gw := gw_in (i := 1199) (by decide +kernel) (by decide +kernel)
theorem w_co_X9_global : Cond.code yX9_global cX9_global 2 (some FieldType.long) ∈ gw := gw_in (i := 1200) (by decide +kernel) (by decide +kernel)
theorem w_ml_L_79 : Cond.methodLink RL 79 yX9_place_ ∈ gw := gw_in (i := 1201) (by decide +kernel) (by decide +kernel)
theorem w_im_X9_place_ : Cond.instanceMethod yX9_place_ ∈ gw := gw_in (i := 1202) (by decide +kernel) (by decide +kernel)
theorem w_se_X9_X9_place_ : Cond.selects RX9 yX9_place_ yX9_place_ ∈ gw := gw_in (i := 1203) (by decide +kernel) (by decide +kernel)
theorem w_co_X9_place_ : Cond.code yX9_place_ cX9_place_ 3 (some FieldType.long) ∈ gw := gw_in (i := 1204) (by decide +kernel) (by decide +kernel)
theorem w_ml_L_82 : Cond.methodLink RL 82 yX9_output ∈ gw := gw_in (i := 1205) (by decide +kernel) (by decide +kernel)
theorem w_im_X9_output : Cond.instanceMethod yX9_output ∈ gw := gw_in (i := 1206) (by decide +kernel) (by decide +kernel)
theorem w_se_X9_X9_output : Cond.selects RX9 yX9_output yX9_output ∈ gw := gw_in (i := 1207) (by decide +kernel) (by decide +kernel)
theorem w_co_X9_output : Cond.code yX9_output cX9_output 2 (some FieldType.int) ∈ gw := gw_in (i := 1208) (by decide +kernel) (by decide +kernel)
theorem w_ml_L_86 : Cond.methodLink RL 86 yX9_collect ∈ gw := gw_in (i := 1209) (by decide +kernel) (by decide +kernel)
theorem w_im_X9_collect : Cond.instanceMethod yX9_collect ∈ gw := gw_in (i := 1210) (by decide +kernel) (by decide +kernel)
theorem w_se_X9_X9_collect : Cond.selects RX9 yX9_collect yX9_collect ∈ gw := gw_in (i := 1211) (by decide +kernel) (by decide +kernel)
theorem w_co_X9_collect : Cond.code yX9_collect cX9_collect 1 (some FieldType.int) ∈ gw := gw_in (i := 1212) (by decide +kernel) (by decide +kernel)
theorem w_ml_L_90 : Cond.methodLink RL 90 yX9_count ∈ gw := gw_in (i := 1213) (by decide +kernel) (by decide +kernel)
theorem w_im_X9_count : Cond.instanceMethod yX9_count ∈ gw := gw_in (i := 1214) (by decide +kernel) (by decide +kernel)
theorem w_se_X9_X9_count : Cond.selects RX9 yX9_count yX9_count ∈ gw := gw_in (i := 1215) (by decide +kernel) (by decide +kernel)
theorem w_co_X9_count : Cond.code yX9_count cX9_count 5 (some FieldType.int) ∈ gw := gw_in (i := 1216) (by decide +kernel) (by decide +kernel)
theorem w_sm_1141 : Cond.sameMethod "java/lang/Throwable" "java/lang/Throwable" "fillInStackTrace" "(I)Ljava/lang/Throwable;" ∈ gw := gw_in (i := 1217) (by decide +kernel) (by decide +kernel)
theorem w_sm_1158 : Cond.sameMethod "[Ljava/lang/Object;" "java/lang/Object" "getClass" "()Ljava/lang/Class;" ∈ gw := gw_in (i := 1234) (by decide +kernel) (by decide +kernel)
theorem w_se__Ljava_lang_Object__Object_getClass_651 : Cond.selects "[Ljava/lang/Object;" (⟨"java/lang/Object", "getClass", "()Ljava/lang/Class;"⟩ : MethodName) (⟨"java/lang/Object", "getClass", "()Ljava/lang/Class;"⟩ : MethodName) ∈ gw := gw_in (i := 1235) (by decide +kernel) (by decide +kernel)
theorem w_fl_J0_15 : Cond.fieldLink RJ0 15 "java/lang/String" "coder" "B" ∈ gw := gw_in (i := 1244) (by decide +kernel) (by decide +kernel)
theorem w_fl_J0_9 : Cond.fieldLink RJ0 9 "java/lang/String" "value" "[B" ∈ gw := gw_in (i := 1245) (by decide +kernel) (by decide +kernel)
theorem w_fl_Jx29ce0_7 : Cond.fieldLink RJx29ce0 7 "java/lang/Enum" "ordinal" "I" ∈ gw := gw_in (i := 1247) (by decide +kernel) (by decide +kernel)
theorem w_ac_byte : Cond.arrayClass .byte ∈ gw := gw_in (i := 1275) (by decide +kernel) (by decide +kernel)
theorem w_se_Jx4a65c_Jx4a65c_add_72be8 : Cond.selects RJx4a65c yJx4a65c_add_72be8 yJx4a65c_add_72be8 ∈ gw := gw_in (i := 0) (by decide +kernel) (by decide +kernel)
theorem w_se_Jx4a65c_Jx4a65c_grow_d5877 : Cond.selects RJx4a65c yJx4a65c_grow_d5877 yJx4a65c_grow_d5877 ∈ gw := gw_in (i := 1) (by decide +kernel) (by decide +kernel)
theorem w_se_Jx4a65c_Jx4a65c_grow_92f84 : Cond.selects RJx4a65c yJx4a65c_grow_92f84 yJx4a65c_grow_92f84 ∈ gw := gw_in (i := 2) (by decide +kernel) (by decide +kernel)
theorem w_se_X7_X7_markAndSlide : Cond.selects RX7 yX7_markAndSlide yX7_markAndSlide ∈ gw := gw_in (i := 3) (by decide +kernel) (by decide +kernel)
theorem w_se_X1_X1_beginMarking : Cond.selects RX1 yX1_beginMarking yX1_beginMarking ∈ gw := gw_in (i := 4) (by decide +kernel) (by decide +kernel)
theorem w_se_X1_X1_reachRow : Cond.selects RX1 yX1_reachRow yX1_reachRow ∈ gw := gw_in (i := 5) (by decide +kernel) (by decide +kernel)
theorem w_se_X1_X1_reach : Cond.selects RX1 yX1_reach yX1_reach ∈ gw := gw_in (i := 6) (by decide +kernel) (by decide +kernel)
theorem w_se_X7_X7_reachFrom : Cond.selects RX7 yX7_reachFrom yX7_reachFrom ∈ gw := gw_in (i := 7) (by decide +kernel) (by decide +kernel)
theorem w_se_X6_X6_registersKept : Cond.selects RX6 yX6_registersKept yX6_registersKept ∈ gw := gw_in (i := 8) (by decide +kernel) (by decide +kernel)
theorem w_se_X1_X1_reachPlaces : Cond.selects RX1 yX1_reachPlaces yX1_reachPlaces ∈ gw := gw_in (i := 9) (by decide +kernel) (by decide +kernel)
theorem w_se_X1_X1_reachOnward : Cond.selects RX1 yX1_reachOnward yX1_reachOnward ∈ gw := gw_in (i := 10) (by decide +kernel) (by decide +kernel)
theorem w_se_X1_X1_slide : Cond.selects RX1 yX1_slide yX1_slide ∈ gw := gw_in (i := 11) (by decide +kernel) (by decide +kernel)
theorem w_se_X1_X1_followRow : Cond.selects RX1 yX1_followRow yX1_followRow ∈ gw := gw_in (i := 12) (by decide +kernel) (by decide +kernel)
theorem w_se_X7_X7_followIn : Cond.selects RX7 yX7_followIn yX7_followIn ∈ gw := gw_in (i := 13) (by decide +kernel) (by decide +kernel)
theorem w_se_X6_X6_forgetPlacesFrom : Cond.selects RX6 yX6_forgetPlacesFrom yX6_forgetPlacesFrom ∈ gw := gw_in (i := 14) (by decide +kernel) (by decide +kernel)
theorem w_se_X1_X1_followPlaces : Cond.selects RX1 yX1_followPlaces yX1_followPlaces ∈ gw := gw_in (i := 15) (by decide +kernel) (by decide +kernel)
theorem w_se_X7_X7_isDeadlocked : Cond.selects RX7 yX7_isDeadlocked yX7_isDeadlocked ∈ gw := gw_in (i := 16) (by decide +kernel) (by decide +kernel)
theorem w_se_java_lang_Throwable_Throwable_fillInStackTrace_161 : Cond.selects "java/lang/Throwable" (⟨"java/lang/Throwable", "fillInStackTrace", "(I)Ljava/lang/Throwable;"⟩ : MethodName) (⟨"java/lang/Throwable", "fillInStackTrace", "(I)Ljava/lang/Throwable;"⟩ : MethodName) ∈ gw := gw_in (i := 17) (by decide +kernel) (by decide +kernel)
theorem w_se_X7_X7_step : Cond.selects RX7 yX7_step yX7_step ∈ gw := gw_in (i := 18) (by decide +kernel) (by decide +kernel)
theorem w_se_X7_X7_perform : Cond.selects RX7 yX7_perform yX7_perform ∈ gw := gw_in (i := 19) (by decide +kernel) (by decide +kernel)
theorem w_se_X6_X6_isInTransaction : Cond.selects RX6 yX6_isInTransaction yX6_isInTransaction ∈ gw := gw_in (i := 20) (by decide +kernel) (by decide +kernel)
theorem w_se_X6_X6_callsOfInnermostNest : Cond.selects RX6 yX6_callsOfInnermostNest yX6_callsOfInnermostNest ∈ gw := gw_in (i := 21) (by decide +kernel) (by decide +kernel)
theorem w_se_X7_X7_readVar : Cond.selects RX7 yX7_readVar yX7_readVar ∈ gw := gw_in (i := 22) (by decide +kernel) (by decide +kernel)
theorem w_se_X3_X3_lastWriteOf : Cond.selects RX3 yX3_lastWriteOf yX3_lastWriteOf ∈ gw := gw_in (i := 23) (by decide +kernel) (by decide +kernel)
theorem w_se_X7_X7_abort : Cond.selects RX7 yX7_abort yX7_abort ∈ gw := gw_in (i := 24) (by decide +kernel) (by decide +kernel)
theorem w_se_X6_X6_beginAgain : Cond.selects RX6 yX6_beginAgain yX6_beginAgain ∈ gw := gw_in (i := 25) (by decide +kernel) (by decide +kernel)
theorem w_se_X6_X6_restore : Cond.selects RX6 yX6_restore yX6_restore ∈ gw := gw_in (i := 26) (by decide +kernel) (by decide +kernel)
theorem w_se_X6_X6_dropNestsTo : Cond.selects RX6 yX6_dropNestsTo yX6_dropNestsTo ∈ gw := gw_in (i := 27) (by decide +kernel) (by decide +kernel)
theorem w_se_X3_X3_begin : Cond.selects RX3 yX3_begin yX3_begin ∈ gw := gw_in (i := 28) (by decide +kernel) (by decide +kernel)
theorem w_se_X3_X3_hasRead : Cond.selects RX3 yX3_hasRead yX3_hasRead ∈ gw := gw_in (i := 29) (by decide +kernel) (by decide +kernel)
theorem w_se_X3_X3_addRead : Cond.selects RX3 yX3_addRead yX3_addRead ∈ gw := gw_in (i := 30) (by decide +kernel) (by decide +kernel)
theorem w_se_X7_X7_writeVar : Cond.selects RX7 yX7_writeVar yX7_writeVar ∈ gw := gw_in (i := 31) (by decide +kernel) (by decide +kernel)
theorem w_se_X3_X3_addWrite : Cond.selects RX3 yX3_addWrite yX3_addWrite ∈ gw := gw_in (i := 32) (by decide +kernel) (by decide +kernel)
theorem w_se_X7_X7_commit : Cond.selects RX7 yX7_commit yX7_commit ∈ gw := gw_in (i := 33) (by decide +kernel) (by decide +kernel)
theorem w_se_X3_X3_isValid : Cond.selects RX3 yX3_isValid yX3_isValid ∈ gw := gw_in (i := 34) (by decide +kernel) (by decide +kernel)
theorem w_se_X1_X1_assign : Cond.selects RX1 yX1_assign yX1_assign ∈ gw := gw_in (i := 35) (by decide +kernel) (by decide +kernel)
theorem w_se_X7_X7_wakeReadersOf : Cond.selects RX7 yX7_wakeReadersOf yX7_wakeReadersOf ∈ gw := gw_in (i := 36) (by decide +kernel) (by decide +kernel)
theorem w_se_X3_X3_readsOneThatIsIn : Cond.selects RX3 yX3_readsOneThatIsIn yX3_readsOneThatIsIn ∈ gw := gw_in (i := 37) (by decide +kernel) (by decide +kernel)
theorem w_se_X3_X3_clear : Cond.selects RX3 yX3_clear yX3_clear ∈ gw := gw_in (i := 38) (by decide +kernel) (by decide +kernel)
theorem w_se_X7_X7_retry : Cond.selects RX7 yX7_retry yX7_retry ∈ gw := gw_in (i := 39) (by decide +kernel) (by decide +kernel)
theorem w_se_X6_X6_rollBackTo : Cond.selects RX6 yX6_rollBackTo yX6_rollBackTo ∈ gw := gw_in (i := 40) (by decide +kernel) (by decide +kernel)
theorem w_se_X7_X7_raise : Cond.selects RX7 yX7_raise yX7_raise ∈ gw := gw_in (i := 41) (by decide +kernel) (by decide +kernel)
theorem w_se_X6_X6_fail : Cond.selects RX6 yX6_fail yX6_fail ∈ gw := gw_in (i := 42) (by decide +kernel) (by decide +kernel)
theorem w_se_X7_X7_openOrEnd : Cond.selects RX7 yX7_openOrEnd yX7_openOrEnd ∈ gw := gw_in (i := 43) (by decide +kernel) (by decide +kernel)
theorem w_se_X6_X6_openNest : Cond.selects RX6 yX6_openNest yX6_openNest ∈ gw := gw_in (i := 44) (by decide +kernel) (by decide +kernel)
theorem w_se_X7_X7_performPlainly : Cond.selects RX7 yX7_performPlainly yX7_performPlainly ∈ gw := gw_in (i := 45) (by decide +kernel) (by decide +kernel)
theorem w_se_X6_X6_enter : Cond.selects RX6 yX6_enter yX6_enter ∈ gw := gw_in (i := 46) (by decide +kernel) (by decide +kernel)
theorem w_se_X6_X6_leave : Cond.selects RX6 yX6_leave yX6_leave ∈ gw := gw_in (i := 47) (by decide +kernel) (by decide +kernel)
theorem w_se_X1_X1_newPair : Cond.selects RX1 yX1_newPair yX1_newPair ∈ gw := gw_in (i := 48) (by decide +kernel) (by decide +kernel)
theorem w_se_X1_X1_fillNext : Cond.selects RX1 yX1_fillNext yX1_fillNext ∈ gw := gw_in (i := 49) (by decide +kernel) (by decide +kernel)
theorem w_se_X1_X1_newVar : Cond.selects RX1 yX1_newVar yX1_newVar ∈ gw := gw_in (i := 50) (by decide +kernel) (by decide +kernel)
theorem w_se_X7_X7_fork : Cond.selects RX7 yX7_fork yX7_fork ∈ gw := gw_in (i := 51) (by decide +kernel) (by decide +kernel)
theorem w_se_X5_X5_append : Cond.selects RX5 yX5_append yX5_append ∈ gw := gw_in (i := 52) (by decide +kernel) (by decide +kernel)
theorem w_se_X5_X5_numberAt : Cond.selects RX5 yX5_numberAt yX5_numberAt ∈ gw := gw_in (i := 53) (by decide +kernel) (by decide +kernel)
theorem w_se_X9_X9_fail : Cond.selects RX9 yX9_fail yX9_fail ∈ gw := gw_in (i := 54) (by decide +kernel) (by decide +kernel)
theorem w_se_X9_X9_noTask : Cond.selects RX9 yX9_noTask yX9_noTask ∈ gw := gw_in (i := 55) (by decide +kernel) (by decide +kernel)
theorem w_se_X9_X9_step : Cond.selects RX9 yX9_step yX9_step ∈ gw := gw_in (i := 56) (by decide +kernel) (by decide +kernel)
theorem w_se_X9_X9_known : Cond.selects RX9 yX9_known yX9_known ∈ gw := gw_in (i := 57) (by decide +kernel) (by decide +kernel)
theorem w_se_X9_X9_wrong : Cond.selects RX9 yX9_wrong yX9_wrong ∈ gw := gw_in (i := 58) (by decide +kernel) (by decide +kernel)
theorem w_se_X9_X9_plain : Cond.selects RX9 yX9_plain yX9_plain ∈ gw := gw_in (i := 59) (by decide +kernel) (by decide +kernel)
theorem w_se_X9_X9_made : Cond.selects RX9 yX9_made yX9_made ∈ gw := gw_in (i := 60) (by decide +kernel) (by decide +kernel)
theorem w_se_X9_X9_gather : Cond.selects RX9 yX9_gather yX9_gather ∈ gw := gw_in (i := 61) (by decide +kernel) (by decide +kernel)
theorem w_se_X9_X9_reachRow : Cond.selects RX9 yX9_reachRow yX9_reachRow ∈ gw := gw_in (i := 62) (by decide +kernel) (by decide +kernel)
theorem w_se_X9_X9_reach : Cond.selects RX9 yX9_reach yX9_reach ∈ gw := gw_in (i := 63) (by decide +kernel) (by decide +kernel)
theorem w_se_X9_X9_slide : Cond.selects RX9 yX9_slide yX9_slide ∈ gw := gw_in (i := 64) (by decide +kernel) (by decide +kernel)
theorem w_se_X9_X9_moved : Cond.selects RX9 yX9_moved yX9_moved ∈ gw := gw_in (i := 65) (by decide +kernel) (by decide +kernel)
theorem w_se_X9_X9_moveRow : Cond.selects RX9 yX9_moveRow yX9_moveRow ∈ gw := gw_in (i := 66) (by decide +kernel) (by decide +kernel)
theorem w_se_X9_X9_guarded : Cond.selects RX9 yX9_guarded yX9_guarded ∈ gw := gw_in (i := 67) (by decide +kernel) (by decide +kernel)
theorem w_se_X9_X9_reading : Cond.selects RX9 yX9_reading yX9_reading ∈ gw := gw_in (i := 68) (by decide +kernel) (by decide +kernel)
theorem w_se_X9_X9_aborted : Cond.selects RX9 yX9_aborted yX9_aborted ∈ gw := gw_in (i := 69) (by decide +kernel) (by decide +kernel)
theorem w_se_X8_X8_restore : Cond.selects RX8 yX8_restore yX8_restore ∈ gw := gw_in (i := 70) (by decide +kernel) (by decide +kernel)
theorem w_se_X9_X9_valid : Cond.selects RX9 yX9_valid yX9_valid ∈ gw := gw_in (i := 71) (by decide +kernel) (by decide +kernel)
theorem w_se_X9_X9_committed : Cond.selects RX9 yX9_committed yX9_committed ∈ gw := gw_in (i := 72) (by decide +kernel) (by decide +kernel)
theorem w_se_X9_X9_retried : Cond.selects RX9 yX9_retried yX9_retried ∈ gw := gw_in (i := 73) (by decide +kernel) (by decide +kernel)
theorem w_se_X9_X9_thrownUp : Cond.selects RX9 yX9_thrownUp yX9_thrownUp ∈ gw := gw_in (i := 74) (by decide +kernel) (by decide +kernel)
theorem w_se_X9_X9_outer : Cond.selects RX9 yX9_outer yX9_outer ∈ gw := gw_in (i := 75) (by decide +kernel) (by decide +kernel)
end
section
def vNF : List (String × Nat × String × String × String × String) := [(RX7, 125, "AtomicRuntime$Heap", "sorts", "[I", "AtomicRuntime"), (RX7, 129, "AtomicRuntime$Heap", "firsts", "[J", "AtomicRuntime"), (RX3, 32, "AtomicRuntime$Heap", "seconds", "[J", "AtomicRuntime"), (RX7, 132, "AtomicRuntime$Heap", "seconds", "[J", "AtomicRuntime"), (RX7, 122, "AtomicRuntime$Heap", "used", "I", "AtomicRuntime"), (RX7, 135, "AtomicRuntime$Printout", "kept", "I", "AtomicRuntime"), (RX7, 390, "AtomicRuntime$Log", "readPlaces", "[I", "AtomicRuntime"), (RX7, 338, "AtomicRuntime$Log", "writePlaces", "[I", "AtomicRuntime"), (RX7, 314, "AtomicRuntime$Log", "writeValues", "[J", "AtomicRuntime"), (RX7, 104, "AtomicRuntime$Log", "reads", "I", "AtomicRuntime"), (RX7, 109, "AtomicRuntime$Log", "writes", "I", "AtomicRuntime"), (RX6, 60, "AtomicRuntime$Log", "writes", "I", "AtomicRuntime"), (RX7, 116, "AtomicRuntime$Log", "start", "I", "AtomicRuntime"), (RX7, 119, "AtomicRuntime$Strand", "registers", "[J", "AtomicRuntime"), (RX7, 356, "AtomicRuntime$Strand", "nestSorts", "[I", "AtomicRuntime"), (RX7, 387, "AtomicRuntime$Strand", "nestRegisters", "[J", "AtomicRuntime"), (RX7, 100, "AtomicRuntime$Strand", "log", "LAtomicRuntime$Log;", "AtomicRuntime"), (RX7, 81, "AtomicRuntime$Strand", "state", "I", "AtomicRuntime"), (RX7, 88, "AtomicRuntime$Strand", "code", "I", "AtomicRuntime"), (RX7, 91, "AtomicRuntime$Strand", "pc", "I", "AtomicRuntime"), (RX7, 94, "AtomicRuntime$Strand", "calls", "I", "AtomicRuntime"), (RX7, 97, "AtomicRuntime$Strand", "nests", "I", "AtomicRuntime"), (RX7, 257, "AtomicRuntime$Strand", "atomic", "I", "AtomicRuntime"), (RX7, 173, "AtomicRuntime$Instruction", "number", "I", "AtomicRuntime"), (RX7, 191, "AtomicRuntime$Instruction", "a", "I", "AtomicRuntime"), (RX7, 194, "AtomicRuntime$Instruction", "b", "I", "AtomicRuntime"), (RX7, 247, "AtomicRuntime$Instruction", "c", "I", "AtomicRuntime"), (RX7, 167, "AtomicRuntime$Op", "ALL", "[LAtomicRuntime$Op;", "AtomicRuntime"), (RX7, 233, "AtomicRuntime$Op", "operands", "Ljava/lang/String;", "AtomicRuntime"), (RX7, 254, "AtomicRuntime$Op", "where", "I", "AtomicRuntime")]
def vNM : List (String × Nat × MethodName × String) := [(RX7, 25, yX1_init, "AtomicRuntime"), (RX7, 32, yX5_init, "AtomicRuntime"), (RX7, 52, yX6_init, "AtomicRuntime"), (RX6, 36, yX3_init, "AtomicRuntime"), (RX7, 362, yX1_beginMarking, "AtomicRuntime"), (RX7, 365, yX1_reachRow, "AtomicRuntime"), (RX1, 53, yX7_placeOf, "AtomicRuntime"), (RX7, 384, yX6_registersKept, "AtomicRuntime"), (RX7, 393, yX1_reachPlaces, "AtomicRuntime"), (RX7, 372, yX1_reachOnward, "AtomicRuntime"), (RX7, 375, yX1_slide, "AtomicRuntime"), (RX7, 378, yX1_followRow, "AtomicRuntime"), (RX7, 397, yX6_forgetPlacesFrom, "AtomicRuntime"), (RX7, 400, yX1_followPlaces, "AtomicRuntime"), (RX7, 68, yX2_init, "AtomicRuntime"), (RX7, 112, yX6_isInTransaction, "AtomicRuntime"), (RX7, 266, yX6_callsOfInnermostNest, "AtomicRuntime"), (RX7, 311, yX3_lastWriteOf, "AtomicRuntime"), (RX7, 331, yX6_beginAgain, "AtomicRuntime"), (RX6, 76, yX3_begin, "AtomicRuntime"), (RX7, 320, yX3_hasRead, "AtomicRuntime"), (RX7, 324, yX3_addRead, "AtomicRuntime"), (RX7, 327, yX3_addWrite, "AtomicRuntime"), (RX7, 334, yX3_isValid, "AtomicRuntime"), (RX7, 300, yX6_dropNestsTo, "AtomicRuntime"), (RX7, 341, yX1_assign, "AtomicRuntime"), (RX7, 352, yX3_readsOneThatIsIn, "AtomicRuntime"), (RX7, 349, yX3_clear, "AtomicRuntime"), (RX7, 359, yX6_rollBackTo, "AtomicRuntime"), (RX7, 161, yX6_fail, "AtomicRuntime"), (RX6, 79, yX3_clear, "AtomicRuntime"), (RX7, 293, yX6_openNest, "AtomicRuntime"), (RX7, 297, yX3_begin, "AtomicRuntime"), (RX7, 269, yX6_enter, "AtomicRuntime"), (RX7, 272, yX6_leave, "AtomicRuntime"), (RX7, 275, yX1_newPair, "AtomicRuntime"), (RX7, 282, yX1_newVar, "AtomicRuntime"), (RX7, 290, yX5_append, "AtomicRuntime"), (RX7, 141, yX5_numberAt, "AtomicRuntime"), (RX9, 58, yX8_init, "AtomicRuntimeModel")]
def vNC : List (String × String) := [("java/lang/IllegalStateException", "java/lang/IllegalStateException"), ("java/util/NoSuchElementException", "java/util/NoSuchElementException"), ("java/lang/IllegalArgumentException", "java/lang/IllegalArgumentException"), ("java/lang/IndexOutOfBoundsException", "java/lang/IndexOutOfBoundsException"), ("AtomicRuntimeModel$Task", "java/lang/Object"), ("AtomicRuntime$Op", "java/lang/Object"), ("AtomicRuntime", "java/lang/Object"), ("java/util/ArrayList", "java/lang/Object"), ("AtomicRuntime$Heap", "java/lang/Object"), ("AtomicRuntime$Printout", "java/lang/Object"), ("AtomicRuntime$Strand", "java/lang/Object"), ("AtomicRuntime$Log", "java/lang/Object"), ("AtomicRuntimeModel", "java/lang/Object"), ("java/lang/IllegalStateException", "java/lang/Object"), ("AtomicRuntime$Instruction", "java/lang/Object"), ("java/util/NoSuchElementException", "java/lang/Object"), ("java/lang/IllegalArgumentException", "java/lang/Object"), ("java/lang/IndexOutOfBoundsException", "java/lang/Object"), ("java/lang/Throwable", "java/lang/Object"), ("java/lang/String", "java/lang/Object"), ("[J", "java/lang/Object"), ("[I", "java/lang/Object"), ("[Ljava/lang/Object;", "java/lang/Object"), ("[LAtomicRuntimeModel$Task;", "java/lang/Object"), ("[Z", "java/lang/Object"), ("[LAtomicRuntime$Op;", "java/lang/Object")]
theorem n_fl_X7_125 : (RX7, 125, "AtomicRuntime$Heap", "sorts", "[I", "AtomicRuntime") ∈ vNF := List.mem_of_getElem? (i := 0) rfl
theorem n_fl_X7_129 : (RX7, 129, "AtomicRuntime$Heap", "firsts", "[J", "AtomicRuntime") ∈ vNF := List.mem_of_getElem? (i := 1) rfl
theorem n_fl_X3_32 : (RX3, 32, "AtomicRuntime$Heap", "seconds", "[J", "AtomicRuntime") ∈ vNF := List.mem_of_getElem? (i := 2) rfl
theorem n_fl_X7_132 : (RX7, 132, "AtomicRuntime$Heap", "seconds", "[J", "AtomicRuntime") ∈ vNF := List.mem_of_getElem? (i := 3) rfl
theorem n_fl_X7_122 : (RX7, 122, "AtomicRuntime$Heap", "used", "I", "AtomicRuntime") ∈ vNF := List.mem_of_getElem? (i := 4) rfl
theorem n_fl_X7_135 : (RX7, 135, "AtomicRuntime$Printout", "kept", "I", "AtomicRuntime") ∈ vNF := List.mem_of_getElem? (i := 5) rfl
theorem n_fl_X7_390 : (RX7, 390, "AtomicRuntime$Log", "readPlaces", "[I", "AtomicRuntime") ∈ vNF := List.mem_of_getElem? (i := 6) rfl
theorem n_fl_X7_338 : (RX7, 338, "AtomicRuntime$Log", "writePlaces", "[I", "AtomicRuntime") ∈ vNF := List.mem_of_getElem? (i := 7) rfl
theorem n_fl_X7_314 : (RX7, 314, "AtomicRuntime$Log", "writeValues", "[J", "AtomicRuntime") ∈ vNF := List.mem_of_getElem? (i := 8) rfl
theorem n_fl_X7_104 : (RX7, 104, "AtomicRuntime$Log", "reads", "I", "AtomicRuntime") ∈ vNF := List.mem_of_getElem? (i := 9) rfl
theorem n_fl_X7_109 : (RX7, 109, "AtomicRuntime$Log", "writes", "I", "AtomicRuntime") ∈ vNF := List.mem_of_getElem? (i := 10) rfl
theorem n_fl_X6_60 : (RX6, 60, "AtomicRuntime$Log", "writes", "I", "AtomicRuntime") ∈ vNF := List.mem_of_getElem? (i := 11) rfl
theorem n_fl_X7_116 : (RX7, 116, "AtomicRuntime$Log", "start", "I", "AtomicRuntime") ∈ vNF := List.mem_of_getElem? (i := 12) rfl
theorem n_fl_X7_119 : (RX7, 119, "AtomicRuntime$Strand", "registers", "[J", "AtomicRuntime") ∈ vNF := List.mem_of_getElem? (i := 13) rfl
theorem n_fl_X7_356 : (RX7, 356, "AtomicRuntime$Strand", "nestSorts", "[I", "AtomicRuntime") ∈ vNF := List.mem_of_getElem? (i := 14) rfl
theorem n_fl_X7_387 : (RX7, 387, "AtomicRuntime$Strand", "nestRegisters", "[J", "AtomicRuntime") ∈ vNF := List.mem_of_getElem? (i := 15) rfl
theorem n_fl_X7_100 : (RX7, 100, "AtomicRuntime$Strand", "log", "LAtomicRuntime$Log;", "AtomicRuntime") ∈ vNF := List.mem_of_getElem? (i := 16) rfl
theorem n_fl_X7_81 : (RX7, 81, "AtomicRuntime$Strand", "state", "I", "AtomicRuntime") ∈ vNF := List.mem_of_getElem? (i := 17) rfl
theorem n_fl_X7_88 : (RX7, 88, "AtomicRuntime$Strand", "code", "I", "AtomicRuntime") ∈ vNF := List.mem_of_getElem? (i := 18) rfl
theorem n_fl_X7_91 : (RX7, 91, "AtomicRuntime$Strand", "pc", "I", "AtomicRuntime") ∈ vNF := List.mem_of_getElem? (i := 19) rfl
theorem n_fl_X7_94 : (RX7, 94, "AtomicRuntime$Strand", "calls", "I", "AtomicRuntime") ∈ vNF := List.mem_of_getElem? (i := 20) rfl
theorem n_fl_X7_97 : (RX7, 97, "AtomicRuntime$Strand", "nests", "I", "AtomicRuntime") ∈ vNF := List.mem_of_getElem? (i := 21) rfl
theorem n_fl_X7_257 : (RX7, 257, "AtomicRuntime$Strand", "atomic", "I", "AtomicRuntime") ∈ vNF := List.mem_of_getElem? (i := 22) rfl
theorem n_fl_X7_173 : (RX7, 173, "AtomicRuntime$Instruction", "number", "I", "AtomicRuntime") ∈ vNF := List.mem_of_getElem? (i := 23) rfl
theorem n_fl_X7_191 : (RX7, 191, "AtomicRuntime$Instruction", "a", "I", "AtomicRuntime") ∈ vNF := List.mem_of_getElem? (i := 24) rfl
theorem n_fl_X7_194 : (RX7, 194, "AtomicRuntime$Instruction", "b", "I", "AtomicRuntime") ∈ vNF := List.mem_of_getElem? (i := 25) rfl
theorem n_fl_X7_247 : (RX7, 247, "AtomicRuntime$Instruction", "c", "I", "AtomicRuntime") ∈ vNF := List.mem_of_getElem? (i := 26) rfl
theorem n_fl_X7_167 : (RX7, 167, "AtomicRuntime$Op", "ALL", "[LAtomicRuntime$Op;", "AtomicRuntime") ∈ vNF := List.mem_of_getElem? (i := 27) rfl
theorem n_fl_X7_233 : (RX7, 233, "AtomicRuntime$Op", "operands", "Ljava/lang/String;", "AtomicRuntime") ∈ vNF := List.mem_of_getElem? (i := 28) rfl
theorem n_fl_X7_254 : (RX7, 254, "AtomicRuntime$Op", "where", "I", "AtomicRuntime") ∈ vNF := List.mem_of_getElem? (i := 29) rfl
theorem n_ml_X7_25 : (RX7, 25, yX1_init, "AtomicRuntime") ∈ vNM := List.mem_of_getElem? (i := 0) rfl
theorem n_ml_X7_32 : (RX7, 32, yX5_init, "AtomicRuntime") ∈ vNM := List.mem_of_getElem? (i := 1) rfl
theorem n_ml_X7_52 : (RX7, 52, yX6_init, "AtomicRuntime") ∈ vNM := List.mem_of_getElem? (i := 2) rfl
theorem n_ml_X6_36 : (RX6, 36, yX3_init, "AtomicRuntime") ∈ vNM := List.mem_of_getElem? (i := 3) rfl
theorem n_ml_X7_362 : (RX7, 362, yX1_beginMarking, "AtomicRuntime") ∈ vNM := List.mem_of_getElem? (i := 4) rfl
theorem n_ml_X7_365 : (RX7, 365, yX1_reachRow, "AtomicRuntime") ∈ vNM := List.mem_of_getElem? (i := 5) rfl
theorem n_ml_X1_53 : (RX1, 53, yX7_placeOf, "AtomicRuntime") ∈ vNM := List.mem_of_getElem? (i := 6) rfl
theorem n_ml_X7_384 : (RX7, 384, yX6_registersKept, "AtomicRuntime") ∈ vNM := List.mem_of_getElem? (i := 7) rfl
theorem n_ml_X7_393 : (RX7, 393, yX1_reachPlaces, "AtomicRuntime") ∈ vNM := List.mem_of_getElem? (i := 8) rfl
theorem n_ml_X7_372 : (RX7, 372, yX1_reachOnward, "AtomicRuntime") ∈ vNM := List.mem_of_getElem? (i := 9) rfl
theorem n_ml_X7_375 : (RX7, 375, yX1_slide, "AtomicRuntime") ∈ vNM := List.mem_of_getElem? (i := 10) rfl
theorem n_ml_X7_378 : (RX7, 378, yX1_followRow, "AtomicRuntime") ∈ vNM := List.mem_of_getElem? (i := 11) rfl
theorem n_ml_X7_397 : (RX7, 397, yX6_forgetPlacesFrom, "AtomicRuntime") ∈ vNM := List.mem_of_getElem? (i := 12) rfl
theorem n_ml_X7_400 : (RX7, 400, yX1_followPlaces, "AtomicRuntime") ∈ vNM := List.mem_of_getElem? (i := 13) rfl
theorem n_ml_X7_68 : (RX7, 68, yX2_init, "AtomicRuntime") ∈ vNM := List.mem_of_getElem? (i := 14) rfl
theorem n_ml_X7_112 : (RX7, 112, yX6_isInTransaction, "AtomicRuntime") ∈ vNM := List.mem_of_getElem? (i := 15) rfl
theorem n_ml_X7_266 : (RX7, 266, yX6_callsOfInnermostNest, "AtomicRuntime") ∈ vNM := List.mem_of_getElem? (i := 16) rfl
theorem n_ml_X7_311 : (RX7, 311, yX3_lastWriteOf, "AtomicRuntime") ∈ vNM := List.mem_of_getElem? (i := 17) rfl
theorem n_ml_X7_331 : (RX7, 331, yX6_beginAgain, "AtomicRuntime") ∈ vNM := List.mem_of_getElem? (i := 18) rfl
theorem n_ml_X6_76 : (RX6, 76, yX3_begin, "AtomicRuntime") ∈ vNM := List.mem_of_getElem? (i := 19) rfl
theorem n_ml_X7_320 : (RX7, 320, yX3_hasRead, "AtomicRuntime") ∈ vNM := List.mem_of_getElem? (i := 20) rfl
theorem n_ml_X7_324 : (RX7, 324, yX3_addRead, "AtomicRuntime") ∈ vNM := List.mem_of_getElem? (i := 21) rfl
theorem n_ml_X7_327 : (RX7, 327, yX3_addWrite, "AtomicRuntime") ∈ vNM := List.mem_of_getElem? (i := 22) rfl
theorem n_ml_X7_334 : (RX7, 334, yX3_isValid, "AtomicRuntime") ∈ vNM := List.mem_of_getElem? (i := 23) rfl
theorem n_ml_X7_300 : (RX7, 300, yX6_dropNestsTo, "AtomicRuntime") ∈ vNM := List.mem_of_getElem? (i := 24) rfl
theorem n_ml_X7_341 : (RX7, 341, yX1_assign, "AtomicRuntime") ∈ vNM := List.mem_of_getElem? (i := 25) rfl
theorem n_ml_X7_352 : (RX7, 352, yX3_readsOneThatIsIn, "AtomicRuntime") ∈ vNM := List.mem_of_getElem? (i := 26) rfl
theorem n_ml_X7_349 : (RX7, 349, yX3_clear, "AtomicRuntime") ∈ vNM := List.mem_of_getElem? (i := 27) rfl
theorem n_ml_X7_359 : (RX7, 359, yX6_rollBackTo, "AtomicRuntime") ∈ vNM := List.mem_of_getElem? (i := 28) rfl
theorem n_ml_X7_161 : (RX7, 161, yX6_fail, "AtomicRuntime") ∈ vNM := List.mem_of_getElem? (i := 29) rfl
theorem n_ml_X6_79 : (RX6, 79, yX3_clear, "AtomicRuntime") ∈ vNM := List.mem_of_getElem? (i := 30) rfl
theorem n_ml_X7_293 : (RX7, 293, yX6_openNest, "AtomicRuntime") ∈ vNM := List.mem_of_getElem? (i := 31) rfl
theorem n_ml_X7_297 : (RX7, 297, yX3_begin, "AtomicRuntime") ∈ vNM := List.mem_of_getElem? (i := 32) rfl
theorem n_ml_X7_269 : (RX7, 269, yX6_enter, "AtomicRuntime") ∈ vNM := List.mem_of_getElem? (i := 33) rfl
theorem n_ml_X7_272 : (RX7, 272, yX6_leave, "AtomicRuntime") ∈ vNM := List.mem_of_getElem? (i := 34) rfl
theorem n_ml_X7_275 : (RX7, 275, yX1_newPair, "AtomicRuntime") ∈ vNM := List.mem_of_getElem? (i := 35) rfl
theorem n_ml_X7_282 : (RX7, 282, yX1_newVar, "AtomicRuntime") ∈ vNM := List.mem_of_getElem? (i := 36) rfl
theorem n_ml_X7_290 : (RX7, 290, yX5_append, "AtomicRuntime") ∈ vNM := List.mem_of_getElem? (i := 37) rfl
theorem n_ml_X7_141 : (RX7, 141, yX5_numberAt, "AtomicRuntime") ∈ vNM := List.mem_of_getElem? (i := 38) rfl
theorem n_ml_X9_58 : (RX9, 58, yX8_init, "AtomicRuntimeModel") ∈ vNM := List.mem_of_getElem? (i := 39) rfl
/-- the nest mates' words and what else the warming keeps -/
def vN (z : Nat → Nat) (U : State) : Prop := (∀ q ∈ vNF, va_Nw (.fieldLinkNest q.1 q.2.1 q.2.2.1 q.2.2.2.1 q.2.2.2.2.1 q.2.2.2.2.2) U) ∧ (∀ q ∈ vNM, va_Nw (.methodLinkNest q.1 q.2.1 q.2.2.1 q.2.2.2) U) ∧ (∀ q ∈ vNC, va_Nw (.castable q.1 q.2) U) ∧ va_AO RX8 U ∧ va_AO "java/lang/Object" U ∧ va_Dc U ∧ va_Mi "[Ljava/lang/Object;" (z 33) U
theorem vN.warm {z : Nat → Nat} {s U : State} (hW : s.WarmedH U.vm) (h : vN z s) : vN z U := ⟨fun q hq => va_Nw.warmF hW (h.1 q hq), fun q hq => va_Nw.warmM hW (h.2.1 q hq), fun q hq => va_Nw.warmC hW (h.2.2.1 q hq), va_AO.moved hW.alike h.2.2.2.1, va_AO.moved hW.alike h.2.2.2.2.1, va_Dc.moved hW.alike h.2.2.2.2.2.1, va_Mi.moved hW.alike h.2.2.2.2.2.2⟩
def opN : List String := ["STOP", "CONST", "MOVE", "ADD", "SUB", "MUL", "LESS", "SAME", "JUMP", "ZERO", "CALL", "RET", "PAIR", "FIRST", "SECOND", "VAR", "READ", "WRITE", "ATOMIC", "COMMIT", "OR", "END", "TRY", "RETRY", "THROW", "FORK", "PRINT", "PUT", "GET", "SORT"]
def opW : List Int32 := [1, 0, 0, 0, 0, 0, 0, 0, 0, 0, 0, 0, 0, 0, 0, 0, 2, 2, 1, 2, 2, 0, 0, 2, 0, 1, 1, 1, 0, 0]
def opS : List Nat := [0, 1, 2, 3, 3, 3, 3, 4, 0, 1, 0, 0, 4, 5, 5, 2, 6, 7, 0, 0, 0, 0, 0, 0, 8, 1, 9, 10, 11, 2]
def opM : List Int32 := [10, 11, 12, 13, 14, 15, 16, 17, 18, 19, 20, 21, 22, 23, 24, 25, 1, 2, 6, 3, 7, 9, 8, 4, 5, 26, 27, 28, 29, 30]
def opF : List (String × String × String × List Int32) := [("java/lang/Enum", "ordinal", "I", [0, 1, 2, 3, 4, 5, 6, 7, 8, 9, 10, 11, 12, 13, 14, 15, 16, 17, 18, 19, 20, 21, 22, 23, 24, 25, 26, 27, 28, 29]), ("AtomicRuntime$Op", "where", "I", [1, 0, 0, 0, 0, 0, 0, 0, 0, 0, 0, 0, 0, 0, 0, 0, 2, 2, 1, 2, 2, 0, 0, 2, 0, 1, 1, 1, 0, 0])]
def opB : List (List Int32) := [[45, 45, 45], [82, 45, 45], [82, 82, 45], [82, 73, 73], [82, 82, 82], [82, 80, 45], [82, 86, 45], [86, 82, 45], [67, 45, 45], [73, 45, 45], [71, 82, 45], [82, 71, 45]]
def opL : List Nat := [3, 3, 3, 3, 3, 3, 3, 3, 3, 3, 3, 3]
def opE : List Nat := [124, 130, 133, 136, 142, 150, 155, 158, 167, 171, 174, 177]
/-- the statics: the enum's constants z 0 .. z 29, their array z 30, the switch' table z 31, the empty list's array z 32, the texts z 40 .. and their bytes z 60 .. -/
def vZ (z : Nat → Nat) (A : Nat → Prop) (U : State) (H : Heap) : Prop := va_En RX4 "LAtomicRuntime$Op;" opN opF z A U H ∧ va_Ef 30 RX4 "operands" "Ljava/lang/String;" (fun i => .ref (z (40 + opS.getD i 0))) z A U H ∧ va_Z RX4 "ALL" "[LAtomicRuntime$Op;" (.ref (z 30)) A U H ∧ va_T (.object RX4) (z 30) 30 (fun j => .ref (z j)) A U H ∧ va_Z "AtomicRuntime$1" "$SwitchMap$AtomicRuntime$Op" "[I" (.ref (z 31)) A U H ∧ va_T .int (z 31) 30 (fun j => .int (opM.getD j 0)) A U H ∧ vk_S 12 opL opB (fun i => z (40 + i)) (fun i => z (60 + i)) A U H ∧ va_Z "java/util/ArrayList" "DEFAULTCAPACITY_EMPTY_ELEMENTDATA" "[Ljava/lang/Object;" (.ref (z 32)) A U H ∧ va_T (.object "java/lang/Object") (z 32) 0 (fun _ => .null) A U H ∧ va_Z "java/lang/String" "COMPACT_STRINGS" "Z" (.int 1) A U H ∧ vx_Zq Bundle.tN "UNASSIGNED_STACK" Bundle.steD A U H ∧ vx_Zq Bundle.tN "SUPPRESSED_SENTINEL" Bundle.listD A U H
theorem vZ.moved {z : Nat → Nat} {A : Nat → Prop} {u U : State} {H : Heap} (hvm : u.vm.Alike U.vm) (h : vZ z A u H) : vZ z A U H := ⟨va_En.moved hvm h.1, va_Ef.moved hvm h.2.1, va_Z.moved hvm h.2.2.1, va_T.moved hvm h.2.2.2.1, va_Z.moved hvm h.2.2.2.2.1, va_T.moved hvm h.2.2.2.2.2.1, vk_S.moved hvm h.2.2.2.2.2.2.1, va_Z.moved hvm h.2.2.2.2.2.2.2.1, va_T.moved hvm h.2.2.2.2.2.2.2.2.1, va_Z.moved hvm h.2.2.2.2.2.2.2.2.2.1, vx_Zq.moved hvm h.2.2.2.2.2.2.2.2.2.2.1, vx_Zq.moved hvm h.2.2.2.2.2.2.2.2.2.2.2⟩
theorem vZ.kept {z : Nat → Nat} {A : Nat → Prop} {U : State} {H H1 : Heap} (h : vZ z A U H) (hq : ∀ a : Nat, a < H.size → ¬ A a → H1[a]? = H[a]?) : vZ z A U H1 := ⟨va_En.kept h.1 hq, va_Ef.kept h.2.1 hq, va_Z.kept h.2.2.1 hq, va_T.kept h.2.2.2.1 hq, va_Z.kept h.2.2.2.2.1 hq, va_T.kept h.2.2.2.2.2.1 hq, vk_S.kept h.2.2.2.2.2.2.1 hq, va_Z.kept h.2.2.2.2.2.2.2.1 hq, va_T.kept h.2.2.2.2.2.2.2.2.1 hq, va_Z.kept h.2.2.2.2.2.2.2.2.2.1 hq, vx_Zq.kept h.2.2.2.2.2.2.2.2.2.2.1 hq, vx_Zq.kept h.2.2.2.2.2.2.2.2.2.2.2 hq⟩
theorem vZ.narrow {z : Nat → Nat} {A B : Nat → Prop} {U : State} {H : Heap} (h : vZ z A U H) (hAB : ∀ q, B q → A q) : vZ z B U H := ⟨va_En.narrow h.1 hAB, va_Ef.narrow h.2.1 hAB, va_Z.narrow h.2.2.1 hAB, va_T.narrow h.2.2.2.1 hAB, va_Z.narrow h.2.2.2.2.1 hAB, va_T.narrow h.2.2.2.2.2.1 hAB, vk_S.narrow h.2.2.2.2.2.2.1 hAB, va_Z.narrow h.2.2.2.2.2.2.2.1 hAB, va_T.narrow h.2.2.2.2.2.2.2.2.1 hAB, va_Z.narrow h.2.2.2.2.2.2.2.2.2.1 hAB, vx_Zq.narrow h.2.2.2.2.2.2.2.2.2.2.1 hAB, vx_Zq.narrow h.2.2.2.2.2.2.2.2.2.2.2 hAB⟩
end
section
/-! THE JUDGEMENT V: the machine at pc with locals lv, stack st, over the world ws. K bundles what stays the same in a method's body. -/
abbrev vKt : Type := Program × Launch × Env × Room × State × MethodId × Array Value × List Frame × Method × Code × va_G × (Nat → ClassId) × (Nat → Prop) × (Nat → Nat) × (State → Prop)
abbrev kP (K : vKt) : Program := K.1
abbrev kL (K : vKt) : Launch := K.2.1
abbrev kE (K : vKt) : Env := K.2.2.1
abbrev kR (K : vKt) : Room := K.2.2.2.1
abbrev kS (K : vKt) : State := K.2.2.2.2.1
abbrev kM (K : vKt) : MethodId := K.2.2.2.2.2.1
abbrev kAr (K : vKt) : Array Value := K.2.2.2.2.2.2.1
abbrev kB (K : vKt) : List Frame := K.2.2.2.2.2.2.2.1
abbrev kMe (K : vKt) : Method := K.2.2.2.2.2.2.2.2.1
abbrev kC (K : vKt) : Code := K.2.2.2.2.2.2.2.2.2.1
abbrev kD (K : vKt) : va_G := K.2.2.2.2.2.2.2.2.2.2.1
abbrev kY (K : vKt) : Nat → ClassId := K.2.2.2.2.2.2.2.2.2.2.2.1
abbrev kA (K : vKt) : Nat → Prop := K.2.2.2.2.2.2.2.2.2.2.2.2.1
abbrev kZ (K : vKt) : Nat → Nat := K.2.2.2.2.2.2.2.2.2.2.2.2.2.1
abbrev kQ (K : vKt) : State → Prop := K.2.2.2.2.2.2.2.2.2.2.2.2.2.2
def vTy (Y : Nat → ClassId) : List (ClassId × FieldType) := [(Y 0, .int), (Y 1, .long), (Y 2, .boolean), (Y 3, .object RX8), (Y 4, .object "java/lang/Object")]
def V (K : vKt) (nL : Nat) (ws : va_W) (n1 n2 pc : Nat) (lv : List (Nat × Value)) (st : List Value) : Prop :=
  ∀ (H : Heap) (locs : List Loc) (ls : Array Slot), va_P (kD K) vwCl ws H → va_D (kA K) ws → va_S (kA K) (kS K).heap H locs → lv_has ls nL lv →
    W (kP K) (kL K) (kE K) (kR K) (kS K) (kM K) (kAr K) (kB K) (kMe K) (kC K) H locs n1 n2 (kQ K) (F0 (kM K) pc ls st)
/-- what a body may use: the machine, its code, the tables' words, the classes, the statics -/
def vOk (K : vKt) (cc : ByteArray) (own : String) (nL : Nat) : Prop :=
  ((kP K).tables.exec = Jvm.exec ∧ (kC K).code = cc ∧ (kC K).maxLocals = nL ∧ (kS K).vm.findClass own = some (kM K).cls) ∧ (∀ w ∈ gw, w.before (kAr K) (kS K) = true) ∧ va_K (kD K) vwCl (vTy (kY K)) (kS K) ∧ vN (kZ K) (kS K) ∧ vZ (kZ K) (kA K) (kS K) (kS K).heap ∧ (∀ q, (kS K).heap.size ≤ q → kA K q) ∧ (kMe K).locks = false
section VCALC
variable {K : vKt} {cc : ByteArray} {own : String} {nL n1 n2 pc pc' : Nat} {ws : va_W} {lv lv' : List (Nat × Value)} {st : List Value}
theorem vOk.x (X : vOk K cc own nL) : (kP K).tables.exec = Jvm.exec := X.1.1
theorem vOk.b (X : vOk K cc own nL) : (kC K).code = cc := X.1.2.1
theorem vOk.o (X : vOk K cc own nL) : (kS K).vm.findClass own = some (kM K).cls := X.1.2.2.2
theorem vOk.w (X : vOk K cc own nL) {w : Cond} (h : w ∈ gw) : w.before (kAr K) (kS K) = true := X.2.1 w h
theorem vOk.k (X : vOk K cc own nL) : va_K (kD K) vwCl (vTy (kY K)) (kS K) := X.2.2.1
theorem vOk.n (X : vOk K cc own nL) : vN (kZ K) (kS K) := X.2.2.2.1
theorem vOk.z (X : vOk K cc own nL) : vZ (kZ K) (kA K) (kS K) (kS K).heap := X.2.2.2.2.1
theorem vOk.a (X : vOk K cc own nL) : ∀ q, (kS K).heap.size ≤ q → kA K q := X.2.2.2.2.2.1
theorem vOk.l (X : vOk K cc own nL) : (kMe K).locks = false := X.2.2.2.2.2.2
theorem v_sub (ks : List Nat) (e : lv_pick lv ks = lv') (k : V K nL ws n1 n2 pc lv' st) : V K nL ws n1 n2 pc lv st := fun H locs ls hP hD hS hl => k H locs ls hP hD hS (lv_sub hl ks e)
theorem v_widen {m1 m2 : Nat} (h1 : n1 ≤ m1) (h2 : n2 ≤ m2) (k : V K nL ws m1 m2 pc lv st) : V K nL ws n1 n2 pc lv st := fun H locs ls hP hD hS hl => W.widen h1 h2 (k H locs ls hP hD hS hl)
theorem v_eqw {ws' : va_W} (h : ws = ws') (k : V K nL ws' n1 n2 pc lv st) : V K nL ws n1 n2 pc lv st := h ▸ k
theorem v_iload_n (X : vOk K cc own nL) {k : Fin 4} {i j : Nat} {x : Int32} (d : decode cc pc = .ok (.iload_n k, 1)) (hi : (k : Nat) = i) (hj : lv[j]? = some (i, .int x)) (e : pc + 1 = pc') (k : V K nL ws n1 n2 pc' lv (.int x :: st)) : V K nL ws n1 n2 pc lv (st) := by subst e; exact fun H locs ls hP hD hS hl => lv_iload_n X.x X.b d hi (lv_at hl j hj) (k H locs ls hP hD hS hl)
theorem v_iload (X : vOk K cc own nL) {i j : Nat} {x : Int32} (d : decode cc pc = .ok (.iload i, 2)) (hj : lv[j]? = some (i, .int x)) (e : pc + 2 = pc') (k : V K nL ws n1 n2 pc' lv (.int x :: st)) : V K nL ws n1 n2 pc lv (st) := by subst e; exact fun H locs ls hP hD hS hl => lv_iload X.x X.b d (lv_at hl j hj) (k H locs ls hP hD hS hl)
theorem v_lload_n (X : vOk K cc own nL) {k : Fin 4} {i j : Nat} {x : Int64} (d : decode cc pc = .ok (.lload_n k, 1)) (hi : (k : Nat) = i) (hj : lv[j]? = some (i, .long x)) (e : pc + 1 = pc') (k : V K nL ws n1 n2 pc' lv (.long x :: st)) : V K nL ws n1 n2 pc lv (st) := by subst e; exact fun H locs ls hP hD hS hl => lv_lload_n X.x X.b d hi (lv_at hl j hj) (k H locs ls hP hD hS hl)
theorem v_lload (X : vOk K cc own nL) {i j : Nat} {x : Int64} (d : decode cc pc = .ok (.lload i, 2)) (hj : lv[j]? = some (i, .long x)) (e : pc + 2 = pc') (k : V K nL ws n1 n2 pc' lv (.long x :: st)) : V K nL ws n1 n2 pc lv (st) := by subst e; exact fun H locs ls hP hD hS hl => lv_lload X.x X.b d (lv_at hl j hj) (k H locs ls hP hD hS hl)
theorem v_aload_n (X : vOk K cc own nL) {k : Fin 4} {i j : Nat} {x : Nat} (d : decode cc pc = .ok (.aload_n k, 1)) (hi : (k : Nat) = i) (hj : lv[j]? = some (i, .ref x)) (e : pc + 1 = pc') (k : V K nL ws n1 n2 pc' lv (.ref x :: st)) : V K nL ws n1 n2 pc lv (st) := by subst e; exact fun H locs ls hP hD hS hl => lv_aload_n X.x X.b d hi (lv_at hl j hj) (k H locs ls hP hD hS hl)
theorem v_aload (X : vOk K cc own nL) {i j : Nat} {x : Nat} (d : decode cc pc = .ok (.aload i, 2)) (hj : lv[j]? = some (i, .ref x)) (e : pc + 2 = pc') (k : V K nL ws n1 n2 pc' lv (.ref x :: st)) : V K nL ws n1 n2 pc lv (st) := by subst e; exact fun H locs ls hP hD hS hl => lv_aload X.x X.b d (lv_at hl j hj) (k H locs ls hP hD hS hl)
theorem v_istore_n (X : vOk K cc own nL) {k : Fin 4} {i : Nat} {x : Int32} (d : decode cc pc = .ok (.istore_n k, 1)) (hi : (k : Nat) = i) (hn : i < nL) (e : pc + 1 = pc') (hl' : (i, Value.int x) :: lv.filter (fun q => !(q.1 == i) && !(q.1 + 1 == i && q.2.category == 2)) = lv') (kk : V K nL ws n1 n2 pc' lv' st) : V K nL ws n1 n2 pc lv (.int x :: st) := by subst e; exact fun H locs ls hP hD hS hl => lv_istore_n X.x X.b d hi hl hn hl' (fun ls' h => kk H locs ls' hP hD hS h)
theorem v_istore (X : vOk K cc own nL) {i : Nat} {x : Int32} (d : decode cc pc = .ok (.istore i, 2)) (hn : i < nL) (e : pc + 2 = pc') (hl' : (i, Value.int x) :: lv.filter (fun q => !(q.1 == i) && !(q.1 + 1 == i && q.2.category == 2)) = lv') (kk : V K nL ws n1 n2 pc' lv' st) : V K nL ws n1 n2 pc lv (.int x :: st) := by subst e; exact fun H locs ls hP hD hS hl => lv_istore X.x X.b d hl hn hl' (fun ls' h => kk H locs ls' hP hD hS h)
theorem v_lstore_n (X : vOk K cc own nL) {k : Fin 4} {i : Nat} {x : Int64} (d : decode cc pc = .ok (.lstore_n k, 1)) (hi : (k : Nat) = i) (hn : i + 1 < nL) (e : pc + 1 = pc') (hl' : (i, Value.long x) :: lv.filter (fun q => !(q.1 == i) && (!(q.1 == i + 1) && !(q.1 + 1 == i && q.2.category == 2))) = lv') (kk : V K nL ws n1 n2 pc' lv' st) : V K nL ws n1 n2 pc lv (.long x :: st) := by subst e; exact fun H locs ls hP hD hS hl => lv_lstore_n X.x X.b d hi hl hn hl' (fun ls' h => kk H locs ls' hP hD hS h)
theorem v_lstore (X : vOk K cc own nL) {i : Nat} {x : Int64} (d : decode cc pc = .ok (.lstore i, 2)) (hn : i + 1 < nL) (e : pc + 2 = pc') (hl' : (i, Value.long x) :: lv.filter (fun q => !(q.1 == i) && (!(q.1 == i + 1) && !(q.1 + 1 == i && q.2.category == 2))) = lv') (kk : V K nL ws n1 n2 pc' lv' st) : V K nL ws n1 n2 pc lv (.long x :: st) := by subst e; exact fun H locs ls hP hD hS hl => lv_lstore X.x X.b d hl hn hl' (fun ls' h => kk H locs ls' hP hD hS h)
theorem v_astore_n (X : vOk K cc own nL) {k : Fin 4} {i : Nat} {x : Nat} (d : decode cc pc = .ok (.astore_n k, 1)) (hi : (k : Nat) = i) (hn : i < nL) (e : pc + 1 = pc') (hl' : (i, Value.ref x) :: lv.filter (fun q => !(q.1 == i) && !(q.1 + 1 == i && q.2.category == 2)) = lv') (kk : V K nL ws n1 n2 pc' lv' st) : V K nL ws n1 n2 pc lv (.ref x :: st) := by subst e; exact fun H locs ls hP hD hS hl => lv_astore_n X.x X.b d hi hl hn hl' (fun ls' h => kk H locs ls' hP hD hS h)
theorem v_astore (X : vOk K cc own nL) {i : Nat} {x : Nat} (d : decode cc pc = .ok (.astore i, 2)) (hn : i < nL) (e : pc + 2 = pc') (hl' : (i, Value.ref x) :: lv.filter (fun q => !(q.1 == i) && !(q.1 + 1 == i && q.2.category == 2)) = lv') (kk : V K nL ws n1 n2 pc' lv' st) : V K nL ws n1 n2 pc lv (.ref x :: st) := by subst e; exact fun H locs ls hP hD hS hl => lv_astore X.x X.b d hl hn hl' (fun ls' h => kk H locs ls' hP hD hS h)
theorem v_iinc (X : vOk K cc own nL) {i j : Nat} {n : Int} {x v : Int32} (d : decode cc pc = .ok (.iinc i n, 3)) (hj : lv[j]? = some (i, .int x)) (hv : x + Int32.ofInt n = v) (hn : i < nL) (e : pc + 3 = pc') (hl' : (i, Value.int v) :: lv.filter (fun q => !(q.1 == i) && !(q.1 + 1 == i && q.2.category == 2)) = lv') (kk : V K nL ws n1 n2 pc' lv' st) : V K nL ws n1 n2 pc lv st := by subst e; exact fun H locs ls hP hD hS hl => lv_iinc X.x X.b d hl hj hv hn hl' (fun ls' h => kk H locs ls' hP hD hS h)
theorem v_iconst (X : vOk K cc own nL) {n : Int} {v : Int32} (d : decode cc pc = .ok (.iconst n, 1)) (hv : Int32.ofInt n = v) (e : pc + 1 = pc') (k : V K nL ws n1 n2 pc' lv (.int v :: st)) : V K nL ws n1 n2 pc lv (st) := by subst e; exact fun H locs ls hP hD hS hl => lv_iconst X.x X.b d hv (k H locs ls hP hD hS hl)
theorem v_bipush (X : vOk K cc own nL) {n : Int} {v : Int32} (d : decode cc pc = .ok (.bipush n, 2)) (hv : (Int8.ofInt n).toInt32 = v) (e : pc + 2 = pc') (k : V K nL ws n1 n2 pc' lv (.int v :: st)) : V K nL ws n1 n2 pc lv (st) := by subst e; exact fun H locs ls hP hD hS hl => lv_bipush X.x X.b d hv (k H locs ls hP hD hS hl)
theorem v_sipush (X : vOk K cc own nL) {n : Int} {v : Int32} (d : decode cc pc = .ok (.sipush n, 3)) (hv : (Int16.ofInt n).toInt32 = v) (e : pc + 3 = pc') (k : V K nL ws n1 n2 pc' lv (.int v :: st)) : V K nL ws n1 n2 pc lv (st) := by subst e; exact fun H locs ls hP hD hS hl => lv_sipush X.x X.b d hv (k H locs ls hP hD hS hl)
theorem v_lconst (X : vOk K cc own nL) {n : Fin 2} {v : Int64} (d : decode cc pc = .ok (.lconst n, 1)) (hv : Int64.ofNat (n : Nat) = v) (e : pc + 1 = pc') (k : V K nL ws n1 n2 pc' lv (.long v :: st)) : V K nL ws n1 n2 pc lv (st) := by subst e; exact fun H locs ls hP hD hS hl => lv_lconst X.x X.b d hv (k H locs ls hP hD hS hl)
theorem v_ldc2 (X : vOk K cc own nL) {index : Nat} {v : Int64} (d : decode cc pc = .ok (.ldc2_w index, 3)) (hw : Cond.constantLong own index v ∈ gw) (e : pc + 3 = pc') (k : V K nL ws n1 n2 pc' lv (.long v :: st)) : V K nL ws n1 n2 pc lv (st) := by subst e; exact fun H locs ls hP hD hS hl => lv_ldc2 X.x X.b X.o (X.w hw) d (k H locs ls hP hD hS hl)
theorem v_ldc (X : vOk K cc own nL) {index : Nat} {v : Int32} (d : decode cc pc = .ok (.ldc index, 2)) (hw : Cond.constant own index v ∈ gw) (e : pc + 2 = pc') (k : V K nL ws n1 n2 pc' lv (.int v :: st)) : V K nL ws n1 n2 pc lv (st) := by subst e; exact fun H locs ls hP hD hS hl => lv_ldc X.x X.b X.o (X.w hw) d (k H locs ls hP hD hS hl)
theorem v_iadd (X : vOk K cc own nL) {x y : Int32} (d : decode cc pc = .ok (.iadd, 1))  (e : pc + 1 = pc') (k : V K nL ws n1 n2 pc' lv (.int (x + y) :: st)) : V K nL ws n1 n2 pc lv (.int y :: .int x :: st) := by subst e; exact fun H locs ls hP hD hS hl => lv_iadd X.x X.b d (k H locs ls hP hD hS hl)
theorem v_isub (X : vOk K cc own nL) {x y : Int32} (d : decode cc pc = .ok (.isub, 1))  (e : pc + 1 = pc') (k : V K nL ws n1 n2 pc' lv (.int (x - y) :: st)) : V K nL ws n1 n2 pc lv (.int y :: .int x :: st) := by subst e; exact fun H locs ls hP hD hS hl => lv_isub X.x X.b d (k H locs ls hP hD hS hl)
theorem v_imul (X : vOk K cc own nL) {x y : Int32} (d : decode cc pc = .ok (.imul, 1))  (e : pc + 1 = pc') (k : V K nL ws n1 n2 pc' lv (.int (x * y) :: st)) : V K nL ws n1 n2 pc lv (.int y :: .int x :: st) := by subst e; exact fun H locs ls hP hD hS hl => lv_imul X.x X.b d (k H locs ls hP hD hS hl)
theorem v_ior (X : vOk K cc own nL) {x y : Int32} (d : decode cc pc = .ok (.ior, 1))  (e : pc + 1 = pc') (k : V K nL ws n1 n2 pc' lv (.int (x ||| y) :: st)) : V K nL ws n1 n2 pc lv (.int y :: .int x :: st) := by subst e; exact fun H locs ls hP hD hS hl => lv_ior X.x X.b d (k H locs ls hP hD hS hl)
theorem v_iand (X : vOk K cc own nL) {x y : Int32} (d : decode cc pc = .ok (.iand, 1))  (e : pc + 1 = pc') (k : V K nL ws n1 n2 pc' lv (.int (x &&& y) :: st)) : V K nL ws n1 n2 pc lv (.int y :: .int x :: st) := by subst e; exact fun H locs ls hP hD hS hl => lv_iand X.x X.b d (k H locs ls hP hD hS hl)
theorem v_ishl (X : vOk K cc own nL) {x y : Int32} (d : decode cc pc = .ok (.ishl, 1))  (e : pc + 1 = pc') (k : V K nL ws n1 n2 pc' lv (.int (x <<< (y &&& 31)) :: st)) : V K nL ws n1 n2 pc lv (.int y :: .int x :: st) := by subst e; exact fun H locs ls hP hD hS hl => lv_ishl X.x X.b d (k H locs ls hP hD hS hl)
theorem v_ishr (X : vOk K cc own nL) {x y : Int32} (d : decode cc pc = .ok (.ishr, 1))  (e : pc + 1 = pc') (k : V K nL ws n1 n2 pc' lv (.int (x >>> (y &&& 31)) :: st)) : V K nL ws n1 n2 pc lv (.int y :: .int x :: st) := by subst e; exact fun H locs ls hP hD hS hl => lv_ishr X.x X.b d (k H locs ls hP hD hS hl)
theorem v_ladd (X : vOk K cc own nL) {x y : Int64} (d : decode cc pc = .ok (.ladd, 1))  (e : pc + 1 = pc') (k : V K nL ws n1 n2 pc' lv (.long (x + y) :: st)) : V K nL ws n1 n2 pc lv (.long y :: .long x :: st) := by subst e; exact fun H locs ls hP hD hS hl => lv_ladd X.x X.b d (k H locs ls hP hD hS hl)
theorem v_lsub (X : vOk K cc own nL) {x y : Int64} (d : decode cc pc = .ok (.lsub, 1))  (e : pc + 1 = pc') (k : V K nL ws n1 n2 pc' lv (.long (x - y) :: st)) : V K nL ws n1 n2 pc lv (.long y :: .long x :: st) := by subst e; exact fun H locs ls hP hD hS hl => lv_lsub X.x X.b d (k H locs ls hP hD hS hl)
theorem v_lmul (X : vOk K cc own nL) {x y : Int64} (d : decode cc pc = .ok (.lmul, 1))  (e : pc + 1 = pc') (k : V K nL ws n1 n2 pc' lv (.long (x * y) :: st)) : V K nL ws n1 n2 pc lv (.long y :: .long x :: st) := by subst e; exact fun H locs ls hP hD hS hl => lv_lmul X.x X.b d (k H locs ls hP hD hS hl)
theorem v_land (X : vOk K cc own nL) {x y : Int64} (d : decode cc pc = .ok (.land, 1))  (e : pc + 1 = pc') (k : V K nL ws n1 n2 pc' lv (.long (x &&& y) :: st)) : V K nL ws n1 n2 pc lv (.long y :: .long x :: st) := by subst e; exact fun H locs ls hP hD hS hl => lv_land X.x X.b d (k H locs ls hP hD hS hl)
theorem v_irem (X : vOk K cc own nL) {x y : Int32} (d : decode cc pc = .ok (.irem, 1)) (hne : ¬ y = 0) (e : pc + 1 = pc') (k : V K nL ws n1 n2 pc' lv (.int (x - x / y * y) :: st)) : V K nL ws n1 n2 pc lv (.int y :: .int x :: st) := by subst e; exact fun H locs ls hP hD hS hl => lv_irem X.x X.b d hne (k H locs ls hP hD hS hl)
theorem v_i2l (X : vOk K cc own nL) {x : Int32} {v : Int64} (d : decode cc pc = .ok (.i2l, 1)) (hv : x.toInt64 = v) (e : pc + 1 = pc') (k : V K nL ws n1 n2 pc' lv (.long v :: st)) : V K nL ws n1 n2 pc lv (.int x :: st) := by subst e; exact fun H locs ls hP hD hS hl => lv_i2l X.x X.b d hv (k H locs ls hP hD hS hl)
theorem v_l2i (X : vOk K cc own nL) {x : Int64} {v : Int32} (d : decode cc pc = .ok (.l2i, 1)) (hv : x.toInt32 = v) (e : pc + 1 = pc') (k : V K nL ws n1 n2 pc' lv (.int v :: st)) : V K nL ws n1 n2 pc lv (.long x :: st) := by subst e; exact fun H locs ls hP hD hS hl => lv_l2i X.x X.b d hv (k H locs ls hP hD hS hl)
theorem v_i2c (X : vOk K cc own nL) {x : Int32} {v : Int32} (d : decode cc pc = .ok (.i2c, 1)) (hv : (x.toUInt32 % 65536).toInt32 = v) (e : pc + 1 = pc') (k : V K nL ws n1 n2 pc' lv (.int v :: st)) : V K nL ws n1 n2 pc lv (.int x :: st) := by subst e; exact fun H locs ls hP hD hS hl => lv_i2c X.x X.b d hv (k H locs ls hP hD hS hl)
theorem v_lcmp (X : vOk K cc own nL) {x y : Int64} (d : decode cc pc = .ok (.lcmp, 1))  (e : pc + 1 = pc') (k : V K nL ws n1 n2 pc' lv (.int (lg_cmp x y) :: st)) : V K nL ws n1 n2 pc lv (.long y :: .long x :: st) := by subst e; exact fun H locs ls hP hD hS hl => W.lcmp X.x X.b d (k H locs ls hP hD hS hl)
theorem v_dup (X : vOk K cc own nL) {va : Value} (d : decode cc pc = .ok (.dup, 1)) (hva : va.category = 1) (e : pc + 1 = pc') (k : V K nL ws n1 n2 pc' lv (va :: va :: st)) : V K nL ws n1 n2 pc lv (va :: st) := by subst e; exact fun H locs ls hP hD hS hl => lv_dup X.x X.b d hva (k H locs ls hP hD hS hl)
theorem v_pop (X : vOk K cc own nL) {va : Value} (d : decode cc pc = .ok (.pop, 1)) (hva : va.category = 1) (e : pc + 1 = pc') (k : V K nL ws n1 n2 pc' lv (st)) : V K nL ws n1 n2 pc lv (va :: st) := by subst e; exact fun H locs ls hP hD hS hl => lv_pop X.x X.b d hva (k H locs ls hP hD hS hl)
theorem v_dup_x1 (X : vOk K cc own nL) {va vb : Value} (d : decode cc pc = .ok (.dup_x1, 1)) (hva : va.category = 1) (hvb : vb.category = 1) (e : pc + 1 = pc') (k : V K nL ws n1 n2 pc' lv (va :: vb :: va :: st)) : V K nL ws n1 n2 pc lv (va :: vb :: st) := by subst e; exact fun H locs ls hP hD hS hl => lv_dup_x1 X.x X.b d hva hvb (k H locs ls hP hD hS hl)
theorem v_null (X : vOk K cc own nL)  (d : decode cc pc = .ok (.aconst_null, 1))  (e : pc + 1 = pc') (k : V K nL ws n1 n2 pc' lv (.null :: st)) : V K nL ws n1 n2 pc lv (st) := by subst e; exact fun H locs ls hP hD hS hl => lv_null X.x X.b d (k H locs ls hP hD hS hl)
theorem v_goto (X : vOk K cc own nL) {off : Int} (d : decode cc pc = .ok (.goto off, 3)) (e : (pc : Int) + off = (pc' : Int)) (k : V K nL ws n1 n2 pc' lv st) : V K nL ws n1 n2 pc lv st := fun H locs ls hP hD hS hl => lv_goto X.x X.b d e (k H locs ls hP hD hS hl)
theorem v_if_eq (X : vOk K cc own nL) {x : Int32} {off : Int} {tgt : Nat} (d : decode cc pc = .ok (.ifCond .eq off, 3)) (ht : (pc : Int) + off = (tgt : Int)) (e : pc + 3 = pc') (kt : x = 0 → V K nL ws n1 n2 tgt lv st) (kf : ¬ x = 0 → V K nL ws n1 n2 pc' lv st) : V K nL ws n1 n2 pc lv (.int x :: st) := by subst e; exact fun H locs ls hP hD hS hl => lv_if_eq X.x X.b d ht (fun h => kt h H locs ls hP hD hS hl) (fun h => kf h H locs ls hP hD hS hl)
theorem v_icmp_eq (X : vOk K cc own nL) {x y : Int32} {off : Int} {tgt : Nat} (d : decode cc pc = .ok (.if_icmp .eq off, 3)) (ht : (pc : Int) + off = (tgt : Int)) (e : pc + 3 = pc') (kt : x = y → V K nL ws n1 n2 tgt lv st) (kf : ¬ x = y → V K nL ws n1 n2 pc' lv st) : V K nL ws n1 n2 pc lv (.int y :: .int x :: st) := by subst e; exact fun H locs ls hP hD hS hl => lv_icmp_eq X.x X.b d ht (fun h => kt h H locs ls hP hD hS hl) (fun h => kf h H locs ls hP hD hS hl)
theorem v_if_ne (X : vOk K cc own nL) {x : Int32} {off : Int} {tgt : Nat} (d : decode cc pc = .ok (.ifCond .ne off, 3)) (ht : (pc : Int) + off = (tgt : Int)) (e : pc + 3 = pc') (kt : ¬ x = 0 → V K nL ws n1 n2 tgt lv st) (kf : x = 0 → V K nL ws n1 n2 pc' lv st) : V K nL ws n1 n2 pc lv (.int x :: st) := by subst e; exact fun H locs ls hP hD hS hl => lv_if_ne X.x X.b d ht (fun h => kt h H locs ls hP hD hS hl) (fun h => kf h H locs ls hP hD hS hl)
theorem v_icmp_ne (X : vOk K cc own nL) {x y : Int32} {off : Int} {tgt : Nat} (d : decode cc pc = .ok (.if_icmp .ne off, 3)) (ht : (pc : Int) + off = (tgt : Int)) (e : pc + 3 = pc') (kt : ¬ x = y → V K nL ws n1 n2 tgt lv st) (kf : x = y → V K nL ws n1 n2 pc' lv st) : V K nL ws n1 n2 pc lv (.int y :: .int x :: st) := by subst e; exact fun H locs ls hP hD hS hl => lv_icmp_ne X.x X.b d ht (fun h => kt h H locs ls hP hD hS hl) (fun h => kf h H locs ls hP hD hS hl)
theorem v_if_lt (X : vOk K cc own nL) {x : Int32} {off : Int} {tgt : Nat} (d : decode cc pc = .ok (.ifCond .lt off, 3)) (ht : (pc : Int) + off = (tgt : Int)) (e : pc + 3 = pc') (kt : x < 0 → V K nL ws n1 n2 tgt lv st) (kf : ¬ x < 0 → V K nL ws n1 n2 pc' lv st) : V K nL ws n1 n2 pc lv (.int x :: st) := by subst e; exact fun H locs ls hP hD hS hl => lv_if_lt X.x X.b d ht (fun h => kt h H locs ls hP hD hS hl) (fun h => kf h H locs ls hP hD hS hl)
theorem v_icmp_lt (X : vOk K cc own nL) {x y : Int32} {off : Int} {tgt : Nat} (d : decode cc pc = .ok (.if_icmp .lt off, 3)) (ht : (pc : Int) + off = (tgt : Int)) (e : pc + 3 = pc') (kt : x < y → V K nL ws n1 n2 tgt lv st) (kf : ¬ x < y → V K nL ws n1 n2 pc' lv st) : V K nL ws n1 n2 pc lv (.int y :: .int x :: st) := by subst e; exact fun H locs ls hP hD hS hl => lv_icmp_lt X.x X.b d ht (fun h => kt h H locs ls hP hD hS hl) (fun h => kf h H locs ls hP hD hS hl)
theorem v_if_ge (X : vOk K cc own nL) {x : Int32} {off : Int} {tgt : Nat} (d : decode cc pc = .ok (.ifCond .ge off, 3)) (ht : (pc : Int) + off = (tgt : Int)) (e : pc + 3 = pc') (kt : 0 ≤ x → V K nL ws n1 n2 tgt lv st) (kf : ¬ 0 ≤ x → V K nL ws n1 n2 pc' lv st) : V K nL ws n1 n2 pc lv (.int x :: st) := by subst e; exact fun H locs ls hP hD hS hl => lv_if_ge X.x X.b d ht (fun h => kt h H locs ls hP hD hS hl) (fun h => kf h H locs ls hP hD hS hl)
theorem v_icmp_ge (X : vOk K cc own nL) {x y : Int32} {off : Int} {tgt : Nat} (d : decode cc pc = .ok (.if_icmp .ge off, 3)) (ht : (pc : Int) + off = (tgt : Int)) (e : pc + 3 = pc') (kt : y ≤ x → V K nL ws n1 n2 tgt lv st) (kf : ¬ y ≤ x → V K nL ws n1 n2 pc' lv st) : V K nL ws n1 n2 pc lv (.int y :: .int x :: st) := by subst e; exact fun H locs ls hP hD hS hl => lv_icmp_ge X.x X.b d ht (fun h => kt h H locs ls hP hD hS hl) (fun h => kf h H locs ls hP hD hS hl)
theorem v_if_gt (X : vOk K cc own nL) {x : Int32} {off : Int} {tgt : Nat} (d : decode cc pc = .ok (.ifCond .gt off, 3)) (ht : (pc : Int) + off = (tgt : Int)) (e : pc + 3 = pc') (kt : 0 < x → V K nL ws n1 n2 tgt lv st) (kf : ¬ 0 < x → V K nL ws n1 n2 pc' lv st) : V K nL ws n1 n2 pc lv (.int x :: st) := by subst e; exact fun H locs ls hP hD hS hl => lv_if_gt X.x X.b d ht (fun h => kt h H locs ls hP hD hS hl) (fun h => kf h H locs ls hP hD hS hl)
theorem v_icmp_gt (X : vOk K cc own nL) {x y : Int32} {off : Int} {tgt : Nat} (d : decode cc pc = .ok (.if_icmp .gt off, 3)) (ht : (pc : Int) + off = (tgt : Int)) (e : pc + 3 = pc') (kt : y < x → V K nL ws n1 n2 tgt lv st) (kf : ¬ y < x → V K nL ws n1 n2 pc' lv st) : V K nL ws n1 n2 pc lv (.int y :: .int x :: st) := by subst e; exact fun H locs ls hP hD hS hl => lv_icmp_gt X.x X.b d ht (fun h => kt h H locs ls hP hD hS hl) (fun h => kf h H locs ls hP hD hS hl)
theorem v_if_le (X : vOk K cc own nL) {x : Int32} {off : Int} {tgt : Nat} (d : decode cc pc = .ok (.ifCond .le off, 3)) (ht : (pc : Int) + off = (tgt : Int)) (e : pc + 3 = pc') (kt : x ≤ 0 → V K nL ws n1 n2 tgt lv st) (kf : ¬ x ≤ 0 → V K nL ws n1 n2 pc' lv st) : V K nL ws n1 n2 pc lv (.int x :: st) := by subst e; exact fun H locs ls hP hD hS hl => lv_if_le X.x X.b d ht (fun h => kt h H locs ls hP hD hS hl) (fun h => kf h H locs ls hP hD hS hl)
theorem v_icmp_le (X : vOk K cc own nL) {x y : Int32} {off : Int} {tgt : Nat} (d : decode cc pc = .ok (.if_icmp .le off, 3)) (ht : (pc : Int) + off = (tgt : Int)) (e : pc + 3 = pc') (kt : x ≤ y → V K nL ws n1 n2 tgt lv st) (kf : ¬ x ≤ y → V K nL ws n1 n2 pc' lv st) : V K nL ws n1 n2 pc lv (.int y :: .int x :: st) := by subst e; exact fun H locs ls hP hD hS hl => lv_icmp_le X.x X.b d ht (fun h => kt h H locs ls hP hD hS hl) (fun h => kf h H locs ls hP hD hS hl)
theorem v_acmp_eq (X : vOk K cc own nL) {rx ry : Option Nat} {off : Int} {tgt : Nat} (d : decode cc pc = .ok (.if_acmp .eq off, 3)) (ht : (pc : Int) + off = (tgt : Int)) (e : pc + 3 = pc') (kt : rx = ry → V K nL ws n1 n2 tgt lv st) (kf : ¬ rx = ry → V K nL ws n1 n2 pc' lv st) : V K nL ws n1 n2 pc lv (va_rf ry :: va_rf rx :: st) := by subst e; exact fun H locs ls hP hD hS hl => lv_acmp_eq X.x X.b d ht (fun h => kt h H locs ls hP hD hS hl) (fun h => kf h H locs ls hP hD hS hl)
theorem v_acmp_ne (X : vOk K cc own nL) {rx ry : Option Nat} {off : Int} {tgt : Nat} (d : decode cc pc = .ok (.if_acmp .ne off, 3)) (ht : (pc : Int) + off = (tgt : Int)) (e : pc + 3 = pc') (kt : ¬ rx = ry → V K nL ws n1 n2 tgt lv st) (kf : rx = ry → V K nL ws n1 n2 pc' lv st) : V K nL ws n1 n2 pc lv (va_rf ry :: va_rf rx :: st) := by subst e; exact fun H locs ls hP hD hS hl => lv_acmp_ne X.x X.b d ht (fun h => kt h H locs ls hP hD hS hl) (fun h => kf h H locs ls hP hD hS hl)
theorem v_tableIn (X : vOk K cc own nL) {dflt lo hi : Int} {offs : Array Int} {len : Nat} {x : Int32} {off : Int} {tgt : Nat} (d : decode cc pc = .ok (.tableswitch dflt lo hi offs, len)) (h1 : ¬ x.toInt < lo) (h2 : ¬ hi < x.toInt) (ho : offs[(x.toInt - lo).toNat]? = some off) (ht : (pc : Int) + off = (tgt : Int)) (k : V K nL ws n1 n2 tgt lv st) : V K nL ws n1 n2 pc lv (.int x :: st) := fun H locs ls hP hD hS hl => lv_tableIn X.x X.b d h1 h2 ho ht (k H locs ls hP hD hS hl)
theorem v_tableOut (X : vOk K cc own nL) {dflt lo hi : Int} {offs : Array Int} {len : Nat} {x : Int32} {tgt : Nat} (d : decode cc pc = .ok (.tableswitch dflt lo hi offs, len)) (h : x.toInt < lo ∨ hi < x.toInt) (ht : (pc : Int) + dflt = (tgt : Int)) (k : V K nL ws n1 n2 tgt lv st) : V K nL ws n1 n2 pc lv (.int x :: st) := fun H locs ls hP hD hS hl => lv_tableOut X.x X.b d h ht (k H locs ls hP hD hS hl)
theorem v_lookup (X : vOk K cc own nL) {dflt : Int} {ps : Array (Int × Int)} {len : Nat} {x : Int32} {off : Int} {tgt : Nat} (d : decode cc pc = .ok (.lookupswitch dflt ps, len)) (hp : (ps.toList.zip (ps.toList.drop 1)).all (fun (a, next) => a.1 < next.1) = true) (ho : Op.lookupswitch.offset ps.toList dflt x.toInt = off) (ht : (pc : Int) + off = (tgt : Int)) (k : V K nL ws n1 n2 tgt lv st) : V K nL ws n1 n2 pc lv (.int x :: st) := fun H locs ls hP hD hS hl => lv_lookup X.x X.b d hp ho ht (k H locs ls hP hD hS hl)
theorem v_topi {x : Int32} (k : ∀ y : Int32, y = x → V K nL ws n1 n2 pc lv (.int y :: st)) : V K nL ws n1 n2 pc lv (.int x :: st) := k x rfl
theorem v_topl {x : Int64} (k : ∀ y : Int64, y = x → V K nL ws n1 n2 pc lv (.long y :: st)) : V K nL ws n1 n2 pc lv (.long x :: st) := k x rfl
theorem v_st {st' : List Value} (h : st = st') (k : V K nL ws n1 n2 pc lv st') : V K nL ws n1 n2 pc lv st := h ▸ k
end VCALC
/-! THE HEAP'S ROWS. A world by places: the kit's rows; a pool: codes cs, their addresses ad, what they hold G. -/
def pw (cs : List Nat) (ad : Nat → Nat) (G : Nat → va_E) : va_W := cs.map (fun c => (ad c, G c))
theorem pw_get {cs : List Nat} {ad : Nat → Nat} {G : Nat → va_E} {c : Nat} (h : c ∈ cs) : ∃ k : Nat, cs[k]? = some c ∧ (pw cs ad G)[k]? = some (ad c, G c) := by
  obtain ⟨k, hk⟩ := List.mem_iff_getElem?.mp h
  exact ⟨k, hk, by rw [pw, List.getElem?_map, hk]; rfl⟩
theorem pw_inj {A : Nat → Prop} {cs : List Nat} {ad : Nat → Nat} {G : Nat → va_E} (hD : va_D A (pw cs ad G)) {i j c : Nat} (hi : cs[i]? = some c) (hj : cs[j]? = some c) : i = j :=
  hD.1 i j (ad c, G c) (ad c, G c) (by rw [pw, List.getElem?_map, hi]; rfl) (by rw [pw, List.getElem?_map, hj]; rfl) rfl
theorem pw_set {A : Nat → Prop} {cs : List Nat} {ad : Nat → Nat} {G : Nat → va_E} (hD : va_D A (pw cs ad G)) {k c : Nat} (hk : cs[k]? = some c) (e : va_E) : (pw cs ad G).set k (ad c, e) = pw cs ad (va_up G c e) := by
  apply List.ext_getElem?
  intro j
  have hkl : k < cs.length := (List.getElem?_eq_some_iff.mp hk).1
  by_cases hj : j = k
  · subst hj
    rw [List.getElem?_set_self (by rw [pw, List.length_map]; exact hkl), pw, List.getElem?_map, hk]
    show some (ad c, e) = some (ad c, va_up G c e c)
    rw [va_up_self]
  · rw [List.getElem?_set_ne (fun z => hj z.symm), pw, pw, List.getElem?_map, List.getElem?_map]
    cases hc : cs[j]? with
    | none => rfl
    | some x =>
      show some (ad x, G x) = some (ad x, va_up G c e x)
      rw [va_up_ne _ _ (fun (z : x = c) => hj (pw_inj hD (hc.trans (by rw [z])) hk))]
theorem pw_congr {cs : List Nat} {ad ad' : Nat → Nat} {G G' : Nat → va_E} (h1 : ∀ c ∈ cs, ad c = ad' c) (h : ∀ c ∈ cs, G c = G' c) : pw cs ad G = pw cs ad' G' := List.map_congr_left (fun c hc => by rw [h1 c hc, h c hc])
theorem pw_push {cs : List Nat} {ad : Nat → Nat} {G : Nat → va_E} {c a : Nat} {e : va_E} (h : c ∉ cs) : pw cs ad G ++ [(a, e)] = pw (cs ++ [c]) (va_up ad c a) (va_up G c e) := by
  rw [pw, pw, List.map_append]
  congr 1
  · exact List.map_congr_left (fun x hx => by
      have hn : x ≠ c := fun z => h (z ▸ hx)
      rw [va_up_ne _ _ hn, va_up_ne _ _ hn])
  · show [(a, e)] = [(va_up ad c a c, va_up G c e c)]
    rw [va_up_self, va_up_self]
section VHEAP
variable {K : vKt} {cc : ByteArray} {own : String} {nL n1 n2 pc pc' : Nat} {ws : va_W} {lv lv' : List (Nat × Value)} {st : List Value}
theorem vOk.g (X : vOk K cc own nL) : ∀ w ∈ gw, w.before (kAr K) (kS K) = true := X.2.1
-- fields by place
theorem v_get (X : vOk K cc own nL) {a : Nat} {ref C : String} {T : u_T} {N ci index : Nat} (hin : ∀ w ∈ u_ws C T N, w ∈ gw) (q0 : Nat) {fs : List Value} (he : ws[q0]? = some (a, .inr (ci, fs))) (hc : vwCl[ci]? = some (C, T, N)) (k : Nat) (hk : k < N) (hlink : Cond.fieldLink own index ref (T k).2.1 (T k).2.2.1 ∈ gw) (hr : (T k).1 = ref) {v : Value} (hv : fs[k]? = some v) (d : decode cc pc = .ok (.getfield index, 3)) (e : pc + 3 = pc') (kk : V K nL ws n1 n2 pc' lv (v :: st)) : V K nL ws n1 n2 pc lv (.ref a :: st) := by
  subst e
  exact fun H locs ls hP hD hS hl => va_get X.x X.b X.g hin X.o X.k hP q0 he hc k hk (X.w hlink) (fun _ h9 => hr ▸ h9) hv d (kk H locs ls hP hD hS hl)
theorem v_getN (X : vOk K cc own nL) {a : Nat} {ref C host : String} {T : u_T} {N ci index : Nat} (hin : ∀ w ∈ u_ws C T N, w ∈ gw) (q0 : Nat) {fs : List Value} (he : ws[q0]? = some (a, .inr (ci, fs))) (hc : vwCl[ci]? = some (C, T, N)) (k : Nat) (hk : k < N) (hlink : (own, index, ref, (T k).2.1, (T k).2.2.1, host) ∈ vNF) (hr : (T k).1 = ref) {v : Value} (hv : fs[k]? = some v) (d : decode cc pc = .ok (.getfield index, 3)) (e : pc + 3 = pc') (kk : V K nL ws n1 n2 pc' lv (v :: st)) : V K nL ws n1 n2 pc lv (.ref a :: st) := by
  subst e
  exact fun H locs ls hP hD hS hl => va_getN X.x X.b X.g hin X.o X.k hP q0 he hc k hk (va_Nw.use rfl (X.n.1 _ hlink)) (fun _ h9 => hr ▸ h9) hv d (kk H locs ls hP hD hS hl)
theorem v_put (X : vOk K cc own nL) {a : Nat} {ref C : String} {T : u_T} {N ci index : Nat} (hin : ∀ w ∈ u_ws C T N, w ∈ gw) (ty0 : Nat → FieldType) (hty : ∀ k, k < N → parseFieldDescriptor (T k).2.2.1 = some (ty0 k)) (hnm : ∀ a, a < N → ∀ b, b < N → a ≠ b → (T a).2.1 ≠ (T b).2.1) (q0 : Nat) {fs : List Value} (he : ws[q0]? = some (a, .inr (ci, fs))) (hc : vwCl[ci]? = some (C, T, N)) (k : Nat) (hk : k < N) (hlink : Cond.fieldLink own index ref (T k).2.1 (T k).2.2.1 ∈ gw) (hr : (T k).1 = ref) (hfin : (T k).2.2.2 = false) {ty : FieldType} {v : Value} (hd : parseFieldDescriptor (T k).2.2.1 = some ty) (hn : narrow ty v = v) (hfit : fits ty v = true) (hl : k < fs.length) (d : decode cc pc = .ok (.putfield index, 3)) (e : pc + 3 = pc')
    (kk : V K nL (ws.set q0 (a, .inr (ci, fs.set k v))) n1 n2 pc' lv st) : V K nL ws n1 n2 pc lv (v :: .ref a :: st) := by
  subst e
  exact fun H locs ls hP hD hS hl9 => va_put X.x X.b X.g hin ty0 hty hnm X.o X.k hP hD hS q0 he hc k hk (X.w hlink) (fun _ h9 => hr ▸ h9) hfin hd hn hfit hl d (fun H1 locs1 hP hD hS => kk H1 locs1 ls hP hD hS hl9)
theorem v_putF (X : vOk K cc own nL) {a : Nat} {ref C : String} {T : u_T} {N ci index : Nat} (hin : ∀ w ∈ u_ws C T N, w ∈ gw) (ty0 : Nat → FieldType) (hty : ∀ k, k < N → parseFieldDescriptor (T k).2.2.1 = some (ty0 k)) (hnm : ∀ a, a < N → ∀ b, b < N → a ≠ b → (T a).2.1 ≠ (T b).2.1) (q0 : Nat) {fs : List Value} (he : ws[q0]? = some (a, .inr (ci, fs))) (hc : vwCl[ci]? = some (C, T, N)) (k : Nat) (hk : k < N) (hlink : Cond.fieldLink own index ref (T k).2.1 (T k).2.2.1 ∈ gw) (hr : (T k).1 = ref) (hfin : (T k).2.2.2 = true) (hin2 : (kMe K).name = "<init>") (hdecl : (T k).1 = own) {ty : FieldType} {v : Value} (hd : parseFieldDescriptor (T k).2.2.1 = some ty) (hn : narrow ty v = v) (hfit : fits ty v = true) (hl : k < fs.length) (d : decode cc pc = .ok (.putfield index, 3)) (e : pc + 3 = pc')
    (kk : V K nL (ws.set q0 (a, .inr (ci, fs.set k v))) n1 n2 pc' lv st) : V K nL ws n1 n2 pc lv (v :: .ref a :: st) := by
  subst e
  exact fun H locs ls hP hD hS hl9 => va_putF X.x X.b X.g hin ty0 hty hnm X.o X.k hP hD hS q0 he hc k hk (X.w hlink) (fun _ h9 => hr ▸ h9) hfin hin2 hdecl hd hn hfit hl d (fun H1 locs1 hP hD hS => kk H1 locs1 ls hP hD hS hl9)
theorem v_putN (X : vOk K cc own nL) {a : Nat} {ref C host : String} {T : u_T} {N ci index : Nat} (hin : ∀ w ∈ u_ws C T N, w ∈ gw) (ty0 : Nat → FieldType) (hty : ∀ k, k < N → parseFieldDescriptor (T k).2.2.1 = some (ty0 k)) (hnm : ∀ a, a < N → ∀ b, b < N → a ≠ b → (T a).2.1 ≠ (T b).2.1) (q0 : Nat) {fs : List Value} (he : ws[q0]? = some (a, .inr (ci, fs))) (hc : vwCl[ci]? = some (C, T, N)) (k : Nat) (hk : k < N) (hlink : (own, index, ref, (T k).2.1, (T k).2.2.1, host) ∈ vNF) (hr : (T k).1 = ref) (hfin : (T k).2.2.2 = false) {ty : FieldType} {v : Value} (hd : parseFieldDescriptor (T k).2.2.1 = some ty) (hn : narrow ty v = v) (hfit : fits ty v = true) (hl : k < fs.length) (d : decode cc pc = .ok (.putfield index, 3)) (e : pc + 3 = pc')
    (kk : V K nL (ws.set q0 (a, .inr (ci, fs.set k v))) n1 n2 pc' lv st) : V K nL ws n1 n2 pc lv (v :: .ref a :: st) := by
  subst e
  exact fun H locs ls hP hD hS hl9 => va_putN X.x X.b X.g hin ty0 hty hnm X.o X.k hP hD hS q0 he hc k hk (va_Nw.use rfl (X.n.1 _ hlink)) (fun _ h9 => hr ▸ h9) hfin hd hn hfit hl d (fun H1 locs1 hP hD hS => kk H1 locs1 ls hP hD hS hl9)
-- arrays by place; t0: 0 int, 1 long, 2 boolean, 3 Task, 4 Object
theorem v_iald (X : vOk K cc own nL) {a : Nat} (q0 : Nat) {n : Nat} {f : Nat → Int32} (ha : ws[q0]? = some (a, .inl (kY K 0, n, .inl f))) {i : Int32} (hin : vp_in i n) {v : Int32} (hv : f i.toNatClampNeg = v) (d : decode cc pc = .ok (.iaload, 1)) (e : pc + 1 = pc') (kk : V K nL ws n1 n2 pc' lv (.int v :: st)) : V K nL ws n1 n2 pc lv (.int i :: .ref a :: st) := by
  subst e; subst hv
  exact fun H locs ls hP hD hS hl => va_iald X.x X.b X.k hP q0 0 ha rfl hin d (kk H locs ls hP hD hS hl)
theorem v_lald (X : vOk K cc own nL) {a : Nat} (q0 : Nat) {n : Nat} {f : Nat → Int64} (ha : ws[q0]? = some (a, .inl (kY K 1, n, .inr (.inl f)))) {i : Int32} (hin : vp_in i n) {v : Int64} (hv : f i.toNatClampNeg = v) (d : decode cc pc = .ok (.laload, 1)) (e : pc + 1 = pc') (kk : V K nL ws n1 n2 pc' lv (.long v :: st)) : V K nL ws n1 n2 pc lv (.int i :: .ref a :: st) := by
  subst e; subst hv
  exact fun H locs ls hP hD hS hl => va_lald X.x X.b X.k hP q0 1 ha rfl hin d (kk H locs ls hP hD hS hl)
theorem v_zald (X : vOk K cc own nL) {a : Nat} (q0 : Nat) {n : Nat} {f : Nat → Int32} (ha : ws[q0]? = some (a, .inl (kY K 2, n, .inl f))) {i : Int32} (hin : vp_in i n) {v : Int32} (hv : f i.toNatClampNeg = v) (d : decode cc pc = .ok (.baload, 1)) (e : pc + 1 = pc') (kk : V K nL ws n1 n2 pc' lv (.int v :: st)) : V K nL ws n1 n2 pc lv (.int i :: .ref a :: st) := by
  subst e; subst hv
  exact fun H locs ls hP hD hS hl => va_zald X.x X.b X.k hP q0 2 ha rfl hin d (kk H locs ls hP hD hS hl)
theorem v_aald (X : vOk K cc own nL) {a : Nat} (q0 t0 : Nat) {cA : ClassId} {C : String} {n : Nat} {f : Nat → Option Nat} (ha : ws[q0]? = some (a, .inl (cA, n, .inr (.inr (.inr (.inr f)))))) (ht : (vTy (kY K))[t0]? = some (cA, .object C)) {i : Int32} (hin : vp_in i n) {v : Option Nat} (hv : f i.toNatClampNeg = v) (d : decode cc pc = .ok (.aaload, 1)) (e : pc + 1 = pc') (kk : V K nL ws n1 n2 pc' lv (va_rf v :: st)) : V K nL ws n1 n2 pc lv (.int i :: .ref a :: st) := by
  subst e; subst hv
  exact fun H locs ls hP hD hS hl => va_aldq X.x X.b X.k hP q0 t0 ha ht hin d (kk H locs ls hP hD hS hl)
theorem v_iast (X : vOk K cc own nL) {a : Nat} (q0 : Nat) {n : Nat} {f : Nat → Int32} (ha : ws[q0]? = some (a, .inl (kY K 0, n, .inl f))) {i x : Int32} (hin : vp_in i n) {j : Nat} (hj : i.toNatClampNeg = j) (d : decode cc pc = .ok (.iastore, 1)) (e : pc + 1 = pc') (kk : V K nL (ws.set q0 (a, .inl (kY K 0, n, .inl (upd f j x)))) n1 n2 pc' lv st) : V K nL ws n1 n2 pc lv (.int x :: .int i :: .ref a :: st) := by
  subst e; subst hj
  exact fun H locs ls hP hD hS hl => va_iast X.x X.b X.k hP hD hS q0 0 ha rfl hin d (fun H1 locs1 hP hD hS => kk H1 locs1 ls hP hD hS hl)
theorem v_last (X : vOk K cc own nL) {a : Nat} (q0 : Nat) {n : Nat} {f : Nat → Int64} (ha : ws[q0]? = some (a, .inl (kY K 1, n, .inr (.inl f)))) {i : Int32} {x : Int64} (hin : vp_in i n) {j : Nat} (hj : i.toNatClampNeg = j) (d : decode cc pc = .ok (.lastore, 1)) (e : pc + 1 = pc') (kk : V K nL (ws.set q0 (a, .inl (kY K 1, n, .inr (.inl (vp_updL f j x))))) n1 n2 pc' lv st) : V K nL ws n1 n2 pc lv (.long x :: .int i :: .ref a :: st) := by
  subst e; subst hj
  exact fun H locs ls hP hD hS hl => va_last X.x X.b X.k hP hD hS q0 1 ha rfl hin d (fun H1 locs1 hP hD hS => kk H1 locs1 ls hP hD hS hl)
theorem v_zast (X : vOk K cc own nL) {a : Nat} (q0 : Nat) {n : Nat} {f : Nat → Int32} (ha : ws[q0]? = some (a, .inl (kY K 2, n, .inl f))) {i x y : Int32} (hxy : vp_nar .boolean x = y) (hin : vp_in i n) {j : Nat} (hj : i.toNatClampNeg = j) (d : decode cc pc = .ok (.bastore, 1)) (e : pc + 1 = pc') (kk : V K nL (ws.set q0 (a, .inl (kY K 2, n, .inl (upd f j y)))) n1 n2 pc' lv st) : V K nL ws n1 n2 pc lv (.int x :: .int i :: .ref a :: st) := by
  subst e; subst hj; subst hxy
  exact fun H locs ls hP hD hS hl => va_zast X.x X.b X.k hP hD hS q0 2 ha rfl hin d (fun H1 locs1 hP hD hS => kk H1 locs1 ls hP hD hS hl)
theorem v_aast (X : vOk K cc own nL) {a : Nat} (q0 t0 qk ci : Nat) {cA : ClassId} {r : vw_C} {n v : Nat} {vs : List Value} {f : Nat → Option Nat} (ha : ws[q0]? = some (a, .inl (cA, n, .inr (.inr (.inr (.inr f)))))) (ht : (vTy (kY K))[t0]? = some (cA, .object r.1)) (hv : ws[qk]? = some (v, .inr (ci, vs))) (hc : vwCl[ci]? = some r) {i : Int32} (hin : vp_in i n) {j : Nat} (hj : i.toNatClampNeg = j) (d : decode cc pc = .ok (.aastore, 1)) (e : pc + 1 = pc') (kk : V K nL (ws.set q0 (a, .inl (cA, n, .inr (.inr (.inr (.inr (va_up f j (some v)))))))) n1 n2 pc' lv st) : V K nL ws n1 n2 pc lv (.ref v :: .int i :: .ref a :: st) := by
  subst e; subst hj
  exact fun H locs ls hP hD hS hl => va_astq X.x X.b X.k hP hD hS q0 t0 qk ci ha ht hv hc hin d (fun H1 locs1 hP hD hS => kk H1 locs1 ls hP hD hS hl)
theorem v_alen (X : vOk K cc own nL) {a : Nat} (q0 t0 : Nat) {cA : ClassId} {x : vp_A} (ha : ws[q0]? = some (a, .inl (cA, x))) {ty : FieldType} (ht : (vTy (kY K))[t0]? = some (cA, ty)) {v : Int32} (hv : Int32.ofNat x.1 = v) (d : decode cc pc = .ok (.arraylength, 1)) (e : pc + 1 = pc') (kk : V K nL ws n1 n2 pc' lv (.int v :: st)) : V K nL ws n1 n2 pc lv (.ref a :: st) := by
  subst e
  exact fun H locs ls hP hD hS hl => va_alen X.x X.b X.k hP q0 t0 ha ht hv d (kk H locs ls hP hD hS hl)
-- what is new
theorem v_new (X : vOk K cc own nL) {C : String} {T : u_T} {N ci index : Nat} (hin : ∀ w ∈ u_ws C T N, w ∈ gw) (ty : Nat → FieldType) (hty : ∀ k, k < N → parseFieldDescriptor (T k).2.2.1 = some (ty k)) (hcl : Cond.classLink own index C ∈ gw) (hinst : Cond.instantiable C N ∈ gw) (hini : Cond.initialized C ∈ gw) (hc : vwCl[ci]? = some (C, T, N)) {fs : List Value} (hfs : ∀ j, j < N → defaultValue (ty j) = vp_V fs j) (hcells : n1 + 1 ≤ (kR K).cells) (hslots : n2 + N ≤ (kR K).slots) (d : decode cc pc = .ok (.new index, 3)) (e : pc + 3 = pc')
    (kk : ∀ q : Nat, V K nL (ws ++ [(q, .inr (ci, fs))]) (n1 + 1) (n2 + N) pc' lv (.ref q :: st)) : V K nL ws n1 n2 pc lv st := by
  subst e
  exact fun H locs ls hP hD hS hl => va_new X.x X.b X.g hin ty hty X.o (X.w hcl) (X.w hinst) (X.w hini) X.k hP hD hS X.a hc hfs hcells hslots d (fun q H1 hP hD hS => kk q H1 locs ls hP hD hS hl)
end VHEAP
end
section
/-! CONTRACTS. Ct: from every state whose heap holds ws (at the arguments As) the method y returns some r, the heap then holds some w with post r w. -/
def vB (D : va_G) (Y : Nat → ClassId) (A : Nat → Prop) (w : va_W) (t : State) : Prop := va_P D vwCl w t.heap ∧ va_K D vwCl (vTy Y) t ∧ va_D A w
def vPre (D : va_G) (Y : Nat → ClassId) (z : Nat → Nat) (sz : Nat) (As : List Value) (ws : va_W) : Array Value → State → Prop := va_Pc As (fun U => U.heap.size = sz ∧ va_P D vwCl ws U.heap ∧ va_K D vwCl (vTy Y) U ∧ va_D (fun _ => True) ws ∧ vN z U ∧ vZ z (va_A ws sz) U U.heap)
def vQ (D : va_G) (Y : Nat → ClassId) (A : Nat → Prop) (post : Option Value → va_W → Prop) : Array Value → State → Outcome → State → Prop := fun _ st oc t => (∃ (r : Option Value) (w : va_W), oc = .returned r ∧ post r w ∧ vB D Y A w t) ∧ va_F A st t
abbrev vRm (fr lo mc ms : Nat) : Room := { frames := fr, cells := mc, slots := ms, locals := lo }
def Ct (l : Launch) (D : va_G) (Y : Nat → ClassId) (z : Nat → Nat) (y : MethodName) (cc : ByteArray) (nL : Nat) (ret : Option FieldType) (fr lo : Nat) (As : List Value) (ws : va_W) (mc ms : Nat) (post : Option Value → va_W → Prop) : Prop :=
  ∀ sz : Nat, Met l y (wsM y cc nL ret) (vRm fr lo mc ms) (vPre D Y z sz As ws) (vQ D Y (va_A ws sz) post) mc ms (va_A ws sz)
theorem vPre.blind {D : va_G} {Y : Nat → ClassId} {z : Nat → Nat} {sz : Nat} {As : List Value} {ws : va_W} : FrameBlind (vPre D Y z sz As ws) := fun a U g mk q => ⟨q.1, q.2.1, q.2.2.1, va_K.moved (u := U) (U := U.calling g mk a) (Vm.Alike.refl U.vm) q.2.2.2.1, q.2.2.2.2.1, vN.warm (s := U) (U := U.calling g mk a) (State.WarmedH.refl U) q.2.2.2.2.2.1, vZ.moved (u := U) (U := U.calling g mk a) (Vm.Alike.refl U.vm) q.2.2.2.2.2.2⟩
/-- what the end of a body owes -/
def vRt (K : vKt) (ret : Option FieldType) (mc ms : Nat) (post : Option Value → va_W → Prop) : Prop :=
  (kMe K).sig.returnType = ret ∧ kQ K = MQ (kB K) (vQ (kD K) (kY K) (kA K) post) (kAr K) (kS K) mc ms (kA K)
theorem v_entry {l : Launch} {D : va_G} {Y : Nat → ClassId} {z : Nat → Nat} {y : MethodName} {cc : ByteArray} {nL : Nat} {ret : Option FieldType} {fr lo : Nat} {As : List Value} {ws : va_W} {mc ms : Nat} {post : Option Value → va_W → Prop} (hy : plainName y.cls = true) (hn : (lg_sl As).length ≤ nL)
    (body : ∀ K : vKt, vOk K cc y.cls nL → vRt K ret mc ms post → kR K = vRm fr lo mc ms → (kMe K).name = y.name → l = kL K → D = kD K → Y = kY K → z = kZ K → V K nL ws 0 0 0 (lv_args 0 As) []) : Ct l D Y z y cc nL ret fr lo As ws mc ms post := by
  intro sz
  refine Met.ofW (cc := cc) (maxL := nL) (ret := ret) hy rfl ?_
  intro p e s m args below meth c s₁ B hml hv
  obtain ⟨rfl, hsz, hP, hK, hD0, hN, hZ⟩ := hv
  subst hsz
  have hts := atoms_spec (ws := wsM y cc nL ret) B.pre
  have hl := lv_entry As (n := nL) hn
  rw [lg_entry_eq]
  exact body (p, l, e, vRm fr lo mc ms, s, m, As.toArray, below, meth, c, D, Y, va_A ws s.heap.size, z, MQ below (vQ D Y (va_A ws s.heap.size) post) As.toArray s mc ms (va_A ws s.heap.size))
    ⟨⟨B.exec, B.bytes, hml, findClass_of_methodNamed B.named⟩, fun w hw => hts w (List.mem_cons_of_mem _ hw), hK, hN, hZ, fun q h => Or.inr h, B.notSynchronized⟩
    ⟨B.returns, rfl⟩ rfl (name_of_methodNamed B.named B.method).1 rfl rfl rfl rfl s.heap [] _ hP (hD0.self (sz := s.heap.size)) va_S.rf hl
section VCON
variable {K : vKt} {cc : ByteArray} {own : String} {nL n1 n2 pc pc' : Nat} {ws : va_W} {lv lv' : List (Nat × Value)} {st st0 : List Value}
theorem v_end {mc ms : Nat} {post : Option Value → va_W → Prop} {r : Option Value} (X : vOk K cc own nL) {H : Heap} {locs : List Loc} (hP : va_P (kD K) vwCl ws H) (hD : va_D (kA K) ws) (hS : va_S (kA K) (kS K).heap H locs) (hp : post r ws) : ∀ t : State, t.heap = H → (kS K).WarmedH t.vm → vQ (kD K) (kY K) (kA K) post (kAr K) (kS K) (.returned r) t :=
  fun t ht hW => ⟨⟨r, ws, rfl, hp, by rw [ht]; exact hP, va_K.moved hW.alike X.k, hD⟩, hS.F ht⟩
theorem v_return (X : vOk K cc own nL) {mc ms : Nat} {post : Option Value → va_W → Prop} (R : vRt K none mc ms post) (h1 : n1 ≤ mc) (h2 : n2 ≤ ms) (d : decode cc pc = .ok (.return_, 1)) (hp : post none ws) : V K nL ws n1 n2 pc lv [] := by
  intro H locs ls hP hD hS hl
  refine W.widen h1 h2 ?_
  rw [R.2]
  exact W.vret X.x X.b R.1 (v_end (mc := mc) (ms := ms) X hP hD hS hp) hS.2.2 d X.l
theorem v_ireturn (X : vOk K cc own nL) {mc ms : Nat} {post : Option Value → va_W → Prop} {v : Int32} (R : vRt K (some .int) mc ms post) (h1 : n1 ≤ mc) (h2 : n2 ≤ ms) (d : decode cc pc = .ok (.ireturn, 1)) (hp : post (some (.int v)) ws) : V K nL ws n1 n2 pc lv [.int v] := by
  intro H locs ls hP hD hS hl
  refine W.widen h1 h2 ?_
  rw [R.2]
  exact W.iret X.x X.b R.1 (v_end (mc := mc) (ms := ms) X hP hD hS hp) hS.2.2 d X.l
theorem v_zreturn (X : vOk K cc own nL) {mc ms : Nat} {post : Option Value → va_W → Prop} {v : Int32} {ty : FieldType} (R : vRt K (some ty) mc ms post) (hn : narrow ty (.int v) = .int v) (h1 : n1 ≤ mc) (h2 : n2 ≤ ms) (d : decode cc pc = .ok (.ireturn, 1)) (hp : post (some (.int v)) ws) : V K nL ws n1 n2 pc lv [.int v] := by
  intro H locs ls hP hD hS hl
  refine W.widen h1 h2 ?_
  rw [R.2]
  exact W.zret X.x X.b R.1 hn (v_end (mc := mc) (ms := ms) X hP hD hS hp) hS.2.2 d X.l
theorem v_lreturn (X : vOk K cc own nL) {mc ms : Nat} {post : Option Value → va_W → Prop} {v : Int64} (R : vRt K (some .long) mc ms post) (h1 : n1 ≤ mc) (h2 : n2 ≤ ms) (d : decode cc pc = .ok (.lreturn, 1)) (hp : post (some (.long v)) ws) : V K nL ws n1 n2 pc lv [.long v] := by
  intro H locs ls hP hD hS hl
  refine W.widen h1 h2 ?_
  rw [R.2]
  exact W.lret X.x X.b R.1 (v_end (mc := mc) (ms := ms) X hP hD hS hp) hS.2.2 d X.l
theorem v_areturn (X : vOk K cc own nL) {mc ms : Nat} {post : Option Value → va_W → Prop} {v : Value} {rt : FieldType} (R : vRt K (some rt) mc ms post) (hrt : (∃ n, rt = .object n) ∨ ∃ t, rt = .array t) (hv : v = .null ∨ ∃ a, v = .ref a) (h1 : n1 ≤ mc) (h2 : n2 ≤ ms) (d : decode cc pc = .ok (.areturn, 1)) (hp : post (some v) ws) : V K nL ws n1 n2 pc lv [v] := by
  intro H locs ls hP hD hS hl
  refine W.widen h1 h2 ?_
  rw [R.2]
  exact W.aret X.x X.b R.1 hrt hv (v_end (mc := mc) (ms := ms) X hP hD hS hp) hS.2.2 d X.l
theorem v_free (X : vOk K cc own nL) {H : Heap} {locs : List Loc} (hD : va_D (kA K) ws) (hS : va_S (kA K) (kS K).heap H locs) : ∀ q, va_A ws H.size q → kA K q := by
  intro q h
  rcases h with ⟨k, e, h⟩ | h
  · exact hD.2 k (q, e) h
  · exact X.a q (Nat.le_trans hS.1 h)
/-- behind a call -/
theorem v_run (X : vOk K cc own nL) {mc ms : Nat} {post : Option Value → va_W → Prop} {a : Array Value} {H : Heap} {locs : List Loc} {ls : Array Slot} (hD : va_D (kA K) ws) (hS : va_S (kA K) (kS K).heap H locs) (hl : lv_has ls nL lv)
    (hr : va_Run (kP K) (kL K) (kE K) (kR K) (kS K) (kM K) (kAr K) (kB K) (kMe K) (kC K) H locs n1 n2 mc ms (F0 (kM K) pc ls st0) st (vQ (kD K) (kY K) (va_A ws H.size) post a) (va_A ws H.size)) (e : pc + 3 = pc')
    (kk : ∀ (r : Option Value) (w : va_W), post r w → V K nL w (n1 + mc) (n2 + ms) pc' lv (r.toList ++ st)) : W (kP K) (kL K) (kE K) (kR K) (kS K) (kM K) (kAr K) (kB K) (kMe K) (kC K) H locs n1 n2 (kQ K) (F0 (kM K) pc ls st0) := by
  subst e
  intro T hT XX
  obtain ⟨v, st₀, t, T', L, h0, X', hL, e1, e2, ⟨⟨r, w, hv, hp, hb⟩, hz, hk⟩, st9⟩ := hr T hT XX
  cases hv
  rw [h0] at hz hk
  have hf := v_free X hD hS
  obtain ⟨t2, a1, b1⟩ := kk _ w hp T'.heap (locs ++ L) ls (by rw [e1]; exact hb.1) (hb.2.2.weaken (fun _ q _ h => hf q.1 h)) ⟨Nat.le_trans hS.1 (by rw [e1]; exact hz), fun q h1 h2 => by
      rw [e1, hk q (Nat.lt_of_lt_of_le h1 hS.1) (fun z => h2 (hf q z))]; exact hS.2.1 q h1 h2, fun q hq => by
      rcases List.mem_append.mp hq with h | h
      · exact hS.2.2 q h
      · exact hf _ (hL q h)⟩ hl T' rfl X'
  exact ⟨t2, st9 t2 a1, b1⟩
/-- what a caller must know of a callee beside its contract -/
def vCe (y : MethodName) (bytes : ByteArray) (maxL : Nat) (ret : Option FieldType) (n : Nat) : Prop := Cond.code y bytes maxL ret ∈ gw ∧ Cond.initialized y.cls ∈ gw ∧ y.cls ≠ "java/lang/invoke/MethodHandle" ∧ y.cls ≠ "java/lang/invoke/VarHandle" ∧ (parseMethodDescriptor y.desc).map (fun d => d.parameters.length) = some n
theorem v_pre (X : vOk K cc own nL) {As : List Value} {H : Heap} {locs : List Loc} (hP : va_P (kD K) vwCl ws H) (hD : va_D (kA K) ws) (hS : va_S (kA K) (kS K).heap H locs) : ∀ U : State, U.heap = H → (kS K).WarmedH U.vm → vPre (kD K) (kY K) (kZ K) H.size As ws As.toArray U :=
  fun U hU hW => ⟨rfl, by rw [hU], by rw [hU]; exact hP, va_K.moved hW.alike X.k, hD.weaken (fun _ _ _ _ => trivial), vN.warm hW X.n, by
    rw [hU]
    exact vZ.narrow (vZ.kept (vZ.moved hW.alike X.z) hS.2.1) (v_free X hD hS)⟩
section CALLS
variable {y : MethodName} {bytes : ByteArray} {maxL n fr lo mc ms index : Nat} {ret : Option FieldType} {As : List Value} {post : Option Value → va_W → Prop} {host C : String} {b : Nat}
theorem vCe.callB (X : vOk K cc own nL) (hc : vCe y bytes maxL ret n) (hl : Cond.methodLink own index y ∈ gw) (hR : fr + 1 ≤ (kR K).frames ∧ 8 + (maxL + 11) + lo ≤ (kR K).locals) : CallB (kR K) (kS K) (kAr K) own index y bytes maxL ret (wsM y bytes maxL ret) (vRm fr lo mc ms) mc ms n :=
  callB_of n X.g (gw_wsM hc.1) rfl rfl rfl (X.w hc.2.1) (X.w hl) hc.2.2 hR
theorem vCe.cn (X : vOk K cc own nL) (hc : vCe y bytes maxL ret n) (hl : (own, index, y, host) ∈ vNM) (hR : fr + 1 ≤ (kR K).frames ∧ 8 + (maxL + 11) + lo ≤ (kR K).locals) : va_CN (kR K) (kS K) (kAr K) own index y host bytes maxL ret (wsM y bytes maxL ret) (vRm fr lo mc ms) mc ms n :=
  va_cnB n X.g (gw_wsM hc.1) rfl rfl rfl (X.n.2.1 _ hl) (X.w hc.2.1) hc.2.2 hR
theorem v_recv (X : vOk K cc own nL) {H : Heap} (hP : va_P (kD K) vwCl ws H) (hb : ∃ (q0 ci : Nat) (fs : List Value) (q : vw_C), ws[q0]? = some (b, .inr (ci, fs)) ∧ vwCl[ci]? = some q ∧ q.1 = C) : ∃ cell : Cell, H[b]? = some cell ∧ cell.vm.isStatics = false ∧ (kS K).vm.findClass C = some cell.cls := by
  obtain ⟨q0, ci, fs, q, h1, h2, h3⟩ := hb
  subst h3
  exact va_recv X.k hP h2 h1
/-- a virtual call in the class' own pool -/
theorem v_callV (X : vOk K cc own nL) (hM : Ct (kL K) (kD K) (kY K) (kZ K) y bytes maxL ret fr lo (.ref b :: As) ws mc ms post) (hc : vCe y bytes maxL ret n) (hl : Cond.methodLink own index y ∈ gw) (him : Cond.instanceMethod y ∈ gw) (hse : Cond.selects C y y ∈ gw) (hb : ∃ (q0 ci : Nat) (fs : List Value) (q : vw_C), ws[q0]? = some (b, .inr (ci, fs)) ∧ vwCl[ci]? = some q ∧ q.1 = C)
    (hR : fr + 1 ≤ (kR K).frames ∧ 8 + (maxL + 11) + lo ≤ (kR K).locals) (hn : As.length = n) (hst : st0 = As.reverse ++ .ref b :: st) (hW : (st.map fun v => v.category).sum ≤ 8) (d : decode cc pc = .ok (.invokevirtual index, 3)) (e : pc + 3 = pc') (hf : n1 + mc ≤ (kR K).cells ∧ n2 + ms ≤ (kR K).slots)
    (kk : ∀ (r : Option Value) (w : va_W), post r w → V K nL w (n1 + mc) (n2 + ms) pc' lv (r.toList ++ st)) : V K nL ws n1 n2 pc lv st0 := by
  intro H locs ls hP hD hS hl9
  exact v_run X hD hS hl9 (va_runV ⟨X.x, X.b, X.1.2.2.1, X.o, X.g⟩ (hM H.size) ⟨vCe.callB X hc hl hR, X.w him, X.w hse⟩ ⟨vPre.blind, v_recv X hP hb, v_pre X hP hD hS⟩ rfl hn hl9.1 hst (lv_room hW) d hf) e kk
/-- .. of a nest mate's private method -/
theorem v_callVN (X : vOk K cc own nL) (hM : Ct (kL K) (kD K) (kY K) (kZ K) y bytes maxL ret fr lo (.ref b :: As) ws mc ms post) (hc : vCe y bytes maxL ret n) (hl : (own, index, y, host) ∈ vNM) (him : Cond.instanceMethod y ∈ gw) (hse : Cond.selects C y y ∈ gw) (hb : ∃ (q0 ci : Nat) (fs : List Value) (q : vw_C), ws[q0]? = some (b, .inr (ci, fs)) ∧ vwCl[ci]? = some q ∧ q.1 = C)
    (hR : fr + 1 ≤ (kR K).frames ∧ 8 + (maxL + 11) + lo ≤ (kR K).locals) (hn : As.length = n) (hst : st0 = As.reverse ++ .ref b :: st) (hW : (st.map fun v => v.category).sum ≤ 8) (d : decode cc pc = .ok (.invokevirtual index, 3)) (e : pc + 3 = pc') (hf : n1 + mc ≤ (kR K).cells ∧ n2 + ms ≤ (kR K).slots)
    (kk : ∀ (r : Option Value) (w : va_W), post r w → V K nL w (n1 + mc) (n2 + ms) pc' lv (r.toList ++ st)) : V K nL ws n1 n2 pc lv st0 := by
  intro H locs ls hP hD hS hl9
  exact v_run X hD hS hl9 (va_runVN (C := C) ⟨X.x, X.b, X.1.2.2.1, X.o, X.g⟩ (hM H.size) ⟨vCe.cn X hc hl hR, X.w him, X.w hse⟩ ⟨vPre.blind, v_recv X hP hb, v_pre X hP hD hS⟩ rfl hn hl9.1 hst (lv_room hW) d hf) e kk
/-- a constructor -/
theorem v_callI (X : vOk K cc own nL) (hM : Ct (kL K) (kD K) (kY K) (kZ K) y bytes maxL none fr lo (.ref b :: As) ws mc ms post) (hc : vCe y bytes maxL none n) (hl : Cond.methodLink own index y ∈ gw) (him : Cond.instanceMethod y ∈ gw) (hy : y.name = "<init>")
    (hR : fr + 1 ≤ (kR K).frames ∧ 8 + (maxL + 11) + lo ≤ (kR K).locals) (hn : As.length = n) (hst : st0 = As.reverse ++ .ref b :: st) (hW : (st.map fun v => v.category).sum ≤ 8) (d : decode cc pc = .ok (.invokespecial index, 3)) (e : pc + 3 = pc') (hf : n1 + mc ≤ (kR K).cells ∧ n2 + ms ≤ (kR K).slots)
    (kk : ∀ (r : Option Value) (w : va_W), post r w → V K nL w (n1 + mc) (n2 + ms) pc' lv (r.toList ++ st)) : V K nL ws n1 n2 pc lv st0 := by
  intro H locs ls hP hD hS hl9
  exact v_run X hD hS hl9 (va_runI ⟨X.x, X.b, X.1.2.2.1, X.o, X.g⟩ (hM H.size) ⟨vCe.callB X hc hl hR, hy, X.w him⟩ ⟨vPre.blind, v_pre X hP hD hS⟩ rfl hn hl9.1 hst (lv_room hW) d hf) e kk
theorem v_callIN (X : vOk K cc own nL) (hM : Ct (kL K) (kD K) (kY K) (kZ K) y bytes maxL none fr lo (.ref b :: As) ws mc ms post) (hc : vCe y bytes maxL none n) (hl : (own, index, y, host) ∈ vNM) (him : Cond.instanceMethod y ∈ gw) (hy : y.name = "<init>")
    (hR : fr + 1 ≤ (kR K).frames ∧ 8 + (maxL + 11) + lo ≤ (kR K).locals) (hn : As.length = n) (hst : st0 = As.reverse ++ .ref b :: st) (hW : (st.map fun v => v.category).sum ≤ 8) (d : decode cc pc = .ok (.invokespecial index, 3)) (e : pc + 3 = pc') (hf : n1 + mc ≤ (kR K).cells ∧ n2 + ms ≤ (kR K).slots)
    (kk : ∀ (r : Option Value) (w : va_W), post r w → V K nL w (n1 + mc) (n2 + ms) pc' lv (r.toList ++ st)) : V K nL ws n1 n2 pc lv st0 := by
  intro H locs ls hP hD hS hl9
  exact v_run X hD hS hl9 (va_runIN ⟨X.x, X.b, X.1.2.2.1, X.o, X.g⟩ (hM H.size) ⟨vCe.cn X hc hl hR, hy, X.w him⟩ ⟨vPre.blind, v_pre X hP hD hS⟩ rfl hn hl9.1 hst (lv_room hW) d hf) e kk
/-- a static method -/
theorem v_callS (X : vOk K cc own nL) (hM : Ct (kL K) (kD K) (kY K) (kZ K) y bytes maxL ret fr lo As ws mc ms post) (hc : vCe y bytes maxL ret n) (hl : Cond.methodLink own index y ∈ gw) (hs : Cond.static y ∈ gw)
    (hR : fr + 1 ≤ (kR K).frames ∧ 8 + (maxL + 11) + lo ≤ (kR K).locals) (hn : As.length = n) (hst : st0 = As.reverse ++ st) (hW : (st.map fun v => v.category).sum ≤ 8) (d : decode cc pc = .ok (.invokestatic index, 3)) (e : pc + 3 = pc') (hf : n1 + mc ≤ (kR K).cells ∧ n2 + ms ≤ (kR K).slots)
    (kk : ∀ (r : Option Value) (w : va_W), post r w → V K nL w (n1 + mc) (n2 + ms) pc' lv (r.toList ++ st)) : V K nL ws n1 n2 pc lv st0 := by
  intro H locs ls hP hD hS hl9
  exact v_run X hD hS hl9 (va_runS ⟨X.x, X.b, X.1.2.2.1, X.o, X.g⟩ (hM H.size) ⟨vCe.callB X hc hl hR, X.w hs⟩ ⟨vPre.blind, v_pre X hP hD hS⟩ rfl hn hl9.1 hst (lv_room hW) d hf) e kk
theorem v_callSN (X : vOk K cc own nL) (hM : Ct (kL K) (kD K) (kY K) (kZ K) y bytes maxL ret fr lo As ws mc ms post) (hc : vCe y bytes maxL ret n) (hl : (own, index, y, host) ∈ vNM) (hs : Cond.static y ∈ gw)
    (hR : fr + 1 ≤ (kR K).frames ∧ 8 + (maxL + 11) + lo ≤ (kR K).locals) (hn : As.length = n) (hst : st0 = As.reverse ++ st) (hW : (st.map fun v => v.category).sum ≤ 8) (d : decode cc pc = .ok (.invokestatic index, 3)) (e : pc + 3 = pc') (hf : n1 + mc ≤ (kR K).cells ∧ n2 + ms ≤ (kR K).slots)
    (kk : ∀ (r : Option Value) (w : va_W), post r w → V K nL w (n1 + mc) (n2 + ms) pc' lv (r.toList ++ st)) : V K nL ws n1 n2 pc lv st0 := by
  intro H locs ls hP hD hS hl9
  exact v_run X hD hS hl9 (va_runSN ⟨X.x, X.b, X.1.2.2.1, X.o, X.g⟩ (hM H.size) ⟨vCe.cn X hc hl hR, X.w hs, trivial⟩ ⟨vPre.blind, v_pre X hP hD hS⟩ rfl hn hl9.1 hst (lv_room hW) d hf) e kk
end CALLS
end VCON
end
section
/-! MEMORY. A system's cells by codes: M.1 c k the int in slot k of the object (place k of the row) with code c, M.2 c k the long. 'cell' says what kind of cell a code is. -/
abbrev vM : Type := (Nat → Nat → Int32) × (Nat → Nat → Int64)
def mI (M : vM) (c k : Nat) (v : Int32) : vM := (va_up M.1 c (upd (M.1 c) k v), M.2)
def mL (M : vM) (c k : Nat) (v : Int64) : vM := (M.1, va_up M.2 c (vp_updL (M.2 c) k v))
def mRI (M : vM) (c : Nat) (f : Nat → Int32) : vM := (va_up M.1 c f, M.2)
def mRL (M : vM) (c : Nat) (f : Nat → Int64) : vM := (M.1, va_up M.2 c f)
theorem mI_r (M : vM) (c k : Nat) (v : Int32) : (mI M c k v).1 c = upd (M.1 c) k v := va_up_self _ _ _
theorem mI_n (M : vM) (c k : Nat) (v : Int32) {x : Nat} (h : x ≠ c) : (mI M c k v).1 x = M.1 x := va_up_ne _ _ h
theorem mI_s (M : vM) (c k : Nat) (v : Int32) : (mI M c k v).1 c k = v := by rw [mI_r]; exact pk_us
theorem mI_o (M : vM) (c k : Nat) (v : Int32) {j : Nat} (h : j ≠ k) : (mI M c k v).1 c j = M.1 c j := by rw [mI_r]; exact pk_un h
theorem mI_2 (M : vM) (c k : Nat) (v : Int32) : (mI M c k v).2 = M.2 := rfl
theorem mL_r (M : vM) (c k : Nat) (v : Int64) : (mL M c k v).2 c = vp_updL (M.2 c) k v := va_up_self _ _ _
theorem mL_n (M : vM) (c k : Nat) (v : Int64) {x : Nat} (h : x ≠ c) : (mL M c k v).2 x = M.2 x := va_up_ne _ _ h
theorem mL_s (M : vM) (c k : Nat) (v : Int64) : (mL M c k v).2 c k = v := by rw [mL_r]; exact pk_uLs
theorem mL_o (M : vM) (c k : Nat) (v : Int64) {j : Nat} (h : j ≠ k) : (mL M c k v).2 c j = M.2 c j := by rw [mL_r]; exact pk_uLn h
theorem mL_1 (M : vM) (c k : Nat) (v : Int64) : (mL M c k v).1 = M.1 := rfl
theorem mRI_r (M : vM) (c : Nat) (f : Nat → Int32) : (mRI M c f).1 c = f := va_up_self _ _ _
theorem mRI_n (M : vM) (c : Nat) (f : Nat → Int32) {x : Nat} (h : x ≠ c) : (mRI M c f).1 x = M.1 x := va_up_ne _ _ h
theorem mRI_2 (M : vM) (c : Nat) (f : Nat → Int32) : (mRI M c f).2 = M.2 := rfl
theorem mRL_r (M : vM) (c : Nat) (f : Nat → Int64) : (mRL M c f).2 c = f := va_up_self _ _ _
theorem mRL_n (M : vM) (c : Nat) (f : Nat → Int64) {x : Nat} (h : x ≠ c) : (mRL M c f).2 x = M.2 x := va_up_ne _ _ h
theorem mRL_1 (M : vM) (c : Nat) (f : Nat → Int64) : (mRL M c f).1 = M.1 := rfl
abbrev vCell : Type := Nat → (Nat → Int32) → (Nat → Int64) → va_E
def pM (cell : vCell) (cs : List Nat) (ad : Nat → Nat) (M : vM) : va_W := pw cs ad (fun c => cell c (M.1 c) (M.2 c))
theorem pM_at {cell : vCell} {cs : List Nat} {ad : Nat → Nat} {M : vM} {c : Nat} {e : va_E} (h : c ∈ cs) (he : cell c (M.1 c) (M.2 c) = e) : ∃ k : Nat, cs[k]? = some c ∧ (pM cell cs ad M)[k]? = some (ad c, e) := by
  obtain ⟨k, h1, h2⟩ := pw_get (ad := ad) (G := fun c => cell c (M.1 c) (M.2 c)) h
  exact ⟨k, h1, by rw [pM, h2]; exact congrArg (fun e => some (ad c, e)) he⟩
theorem pM_set1 {A : Nat → Prop} {cell : vCell} {cs : List Nat} {ad : Nat → Nat} {M : vM} (hD : va_D A (pM cell cs ad M)) {k c : Nat} (hk : cs[k]? = some c) {e : va_E} {f : Nat → Int32} (he : cell c f (M.2 c) = e) : (pM cell cs ad M).set k (ad c, e) = pM cell cs ad (mRI M c f) := by
  rw [pM, pw_set hD hk]
  refine pw_congr (fun _ _ => rfl) (fun x _ => ?_)
  by_cases hx : x = c
  · subst hx; rw [va_up_self]; show e = cell x ((mRI M x f).1 x) (M.2 x); rw [mRI_r, he]
  · rw [va_up_ne _ _ hx]; show _ = cell x ((mRI M c f).1 x) (M.2 x); rw [mRI_n _ _ _ hx]
theorem pM_set2 {A : Nat → Prop} {cell : vCell} {cs : List Nat} {ad : Nat → Nat} {M : vM} (hD : va_D A (pM cell cs ad M)) {k c : Nat} (hk : cs[k]? = some c) {e : va_E} {f : Nat → Int64} (he : cell c (M.1 c) f = e) : (pM cell cs ad M).set k (ad c, e) = pM cell cs ad (mRL M c f) := by
  rw [pM, pw_set hD hk]
  refine pw_congr (fun _ _ => rfl) (fun x _ => ?_)
  by_cases hx : x = c
  · subst hx; rw [va_up_self]; show e = cell x (M.1 x) ((mRL M x f).2 x); rw [mRL_r, he]
  · rw [va_up_ne _ _ hx]; show _ = cell x (M.1 x) ((mRL M c f).2 x); rw [mRL_n _ _ _ hx]
section PROWS
variable {K : vKt} {cc : ByteArray} {own : String} {nL n1 n2 pc pc' : Nat} {lv lv' : List (Nat × Value)} {st : List Value} {cell : vCell} {cs : List Nat} {ad : Nat → Nat} {M : vM} {c : Nat}
theorem v_atD {ws : va_W} (k : va_D (kA K) ws → V K nL ws n1 n2 pc lv st) : V K nL ws n1 n2 pc lv st := fun H locs ls hP hD hS hl => k hD H locs ls hP hD hS hl
theorem p_get (X : vOk K cc own nL) {ref C : String} {T : u_T} {N ci index : Nat} (hin : ∀ w ∈ u_ws C T N, w ∈ gw) (hm : c ∈ cs) {fs : List Value} (he : cell c (M.1 c) (M.2 c) = .inr (ci, fs)) (hc : vwCl[ci]? = some (C, T, N)) (k : Nat) (hk : k < N) (hlink : Cond.fieldLink own index ref (T k).2.1 (T k).2.2.1 ∈ gw) (hr : (T k).1 = ref) {v : Value} (hv : fs[k]? = some v) (d : decode cc pc = .ok (.getfield index, 3)) (e : pc + 3 = pc') (kk : V K nL (pM cell cs ad M) n1 n2 pc' lv (v :: st)) : V K nL (pM cell cs ad M) n1 n2 pc lv (.ref (ad c) :: st) := by
  obtain ⟨q0, -, h2⟩ := pM_at (ad := ad) hm he
  exact v_get X hin q0 h2 hc k hk hlink hr hv d e kk
theorem p_getN (X : vOk K cc own nL) {ref C host : String} {T : u_T} {N ci index : Nat} (hin : ∀ w ∈ u_ws C T N, w ∈ gw) (hm : c ∈ cs) {fs : List Value} (he : cell c (M.1 c) (M.2 c) = .inr (ci, fs)) (hc : vwCl[ci]? = some (C, T, N)) (k : Nat) (hk : k < N) (hlink : (own, index, ref, (T k).2.1, (T k).2.2.1, host) ∈ vNF) (hr : (T k).1 = ref) {v : Value} (hv : fs[k]? = some v) (d : decode cc pc = .ok (.getfield index, 3)) (e : pc + 3 = pc') (kk : V K nL (pM cell cs ad M) n1 n2 pc' lv (v :: st)) : V K nL (pM cell cs ad M) n1 n2 pc lv (.ref (ad c) :: st) := by
  obtain ⟨q0, -, h2⟩ := pM_at (ad := ad) hm he
  exact v_getN X hin q0 h2 hc k hk hlink hr hv d e kk
/-- putfield of an int: slot k of the object -/
theorem p_put (X : vOk K cc own nL) {ref C : String} {T : u_T} {N ci index : Nat} (hin : ∀ w ∈ u_ws C T N, w ∈ gw) (ty0 : Nat → FieldType) (hty : ∀ k, k < N → parseFieldDescriptor (T k).2.2.1 = some (ty0 k)) (hnm : ∀ a, a < N → ∀ b, b < N → a ≠ b → (T a).2.1 ≠ (T b).2.1) (hm : c ∈ cs) {F : (Nat → Int32) → List Value} (he : ∀ f g, cell c f g = .inr (ci, F f)) (hc : vwCl[ci]? = some (C, T, N)) (k : Nat) (hk : k < N) (hlink : Cond.fieldLink own index ref (T k).2.1 (T k).2.2.1 ∈ gw) (hr : (T k).1 = ref) (hfin : (T k).2.2.2 = false) {v : Int32} (hd : parseFieldDescriptor (T k).2.2.1 = some .int) (hset : ∀ f, F (upd f k v) = (F f).set k (.int v)) (hl : ∀ f, k < (F f).length) (d : decode cc pc = .ok (.putfield index, 3)) (e : pc + 3 = pc')
    (kk : V K nL (pM cell cs ad (mI M c k v)) n1 n2 pc' lv st) : V K nL (pM cell cs ad M) n1 n2 pc lv (.int v :: .ref (ad c) :: st) := by
  refine v_atD (fun hD => ?_)
  obtain ⟨q0, h1, h2⟩ := pM_at (ad := ad) hm (he (M.1 c) (M.2 c))
  refine v_put X hin ty0 hty hnm q0 h2 hc k hk hlink hr hfin hd rfl rfl (hl _) d e ?_
  rw [pM_set1 hD h1 (f := upd (M.1 c) k v) (by rw [he, hset])]
  exact kk
theorem p_putN (X : vOk K cc own nL) {ref C host : String} {T : u_T} {N ci index : Nat} (hin : ∀ w ∈ u_ws C T N, w ∈ gw) (ty0 : Nat → FieldType) (hty : ∀ k, k < N → parseFieldDescriptor (T k).2.2.1 = some (ty0 k)) (hnm : ∀ a, a < N → ∀ b, b < N → a ≠ b → (T a).2.1 ≠ (T b).2.1) (hm : c ∈ cs) {F : (Nat → Int32) → List Value} (he : ∀ f g, cell c f g = .inr (ci, F f)) (hc : vwCl[ci]? = some (C, T, N)) (k : Nat) (hk : k < N) (hlink : (own, index, ref, (T k).2.1, (T k).2.2.1, host) ∈ vNF) (hr : (T k).1 = ref) (hfin : (T k).2.2.2 = false) {v : Int32} (hd : parseFieldDescriptor (T k).2.2.1 = some .int) (hset : ∀ f, F (upd f k v) = (F f).set k (.int v)) (hl : ∀ f, k < (F f).length) (d : decode cc pc = .ok (.putfield index, 3)) (e : pc + 3 = pc')
    (kk : V K nL (pM cell cs ad (mI M c k v)) n1 n2 pc' lv st) : V K nL (pM cell cs ad M) n1 n2 pc lv (.int v :: .ref (ad c) :: st) := by
  refine v_atD (fun hD => ?_)
  obtain ⟨q0, h1, h2⟩ := pM_at (ad := ad) hm (he (M.1 c) (M.2 c))
  refine v_putN X hin ty0 hty hnm q0 h2 hc k hk hlink hr hfin hd rfl rfl (hl _) d e ?_
  rw [pM_set1 hD h1 (f := upd (M.1 c) k v) (by rw [he, hset])]
  exact kk
theorem p_iald (X : vOk K cc own nL) (hm : c ∈ cs) {n : Nat} (he : ∀ f g, cell c f g = .inl (kY K 0, n, .inl f)) {i : Int32} (j : Nat) (hj : i = nI j) (hn : j < n) (hN : n < 2 ^ 31) {v : Int32} (hv : M.1 c j = v) (d : decode cc pc = .ok (.iaload, 1)) (e : pc + 1 = pc') (kk : V K nL (pM cell cs ad M) n1 n2 pc' lv (.int v :: st)) : V K nL (pM cell cs ad M) n1 n2 pc lv (.int i :: .ref (ad c) :: st) := by
  obtain ⟨q0, -, h2⟩ := pM_at (ad := ad) hm (he (M.1 c) (M.2 c))
  subst hj
  exact v_iald X q0 h2 (vp_in_nI hn hN) (by rw [nI_clamp (Nat.lt_trans hn hN)]; exact hv) d e kk
theorem p_zald (X : vOk K cc own nL) (hm : c ∈ cs) {n : Nat} (he : ∀ f g, cell c f g = .inl (kY K 2, n, .inl f)) {i : Int32} (j : Nat) (hj : i = nI j) (hn : j < n) (hN : n < 2 ^ 31) {v : Int32} (hv : M.1 c j = v) (d : decode cc pc = .ok (.baload, 1)) (e : pc + 1 = pc') (kk : V K nL (pM cell cs ad M) n1 n2 pc' lv (.int v :: st)) : V K nL (pM cell cs ad M) n1 n2 pc lv (.int i :: .ref (ad c) :: st) := by
  obtain ⟨q0, -, h2⟩ := pM_at (ad := ad) hm (he (M.1 c) (M.2 c))
  subst hj
  exact v_zald X q0 h2 (vp_in_nI hn hN) (by rw [nI_clamp (Nat.lt_trans hn hN)]; exact hv) d e kk
theorem p_lald (X : vOk K cc own nL) (hm : c ∈ cs) {n : Nat} (he : ∀ f g, cell c f g = .inl (kY K 1, n, .inr (.inl g))) {i : Int32} (j : Nat) (hj : i = nI j) (hn : j < n) (hN : n < 2 ^ 31) {v : Int64} (hv : M.2 c j = v) (d : decode cc pc = .ok (.laload, 1)) (e : pc + 1 = pc') (kk : V K nL (pM cell cs ad M) n1 n2 pc' lv (.long v :: st)) : V K nL (pM cell cs ad M) n1 n2 pc lv (.int i :: .ref (ad c) :: st) := by
  obtain ⟨q0, -, h2⟩ := pM_at (ad := ad) hm (he (M.1 c) (M.2 c))
  subst hj
  exact v_lald X q0 h2 (vp_in_nI hn hN) (by rw [nI_clamp (Nat.lt_trans hn hN)]; exact hv) d e kk
theorem p_iast (X : vOk K cc own nL) (hm : c ∈ cs) {n : Nat} (he : ∀ f g, cell c f g = .inl (kY K 0, n, .inl f)) {i x : Int32} (j : Nat) (hj : i = nI j) (hn : j < n) (hN : n < 2 ^ 31) (d : decode cc pc = .ok (.iastore, 1)) (e : pc + 1 = pc') (kk : V K nL (pM cell cs ad (mI M c j x)) n1 n2 pc' lv st) : V K nL (pM cell cs ad M) n1 n2 pc lv (.int x :: .int i :: .ref (ad c) :: st) := by
  refine v_atD (fun hD => ?_)
  obtain ⟨q0, h1, h2⟩ := pM_at (ad := ad) hm (he (M.1 c) (M.2 c))
  subst hj
  refine v_iast X q0 h2 (vp_in_nI hn hN) (nI_clamp (Nat.lt_trans hn hN)) d e ?_
  rw [pM_set1 hD h1 (f := upd (M.1 c) j x) (he _ _)]
  exact kk
theorem p_zast (X : vOk K cc own nL) (hm : c ∈ cs) {n : Nat} (he : ∀ f g, cell c f g = .inl (kY K 2, n, .inl f)) {i x y : Int32} (hxy : vp_nar .boolean x = y) (j : Nat) (hj : i = nI j) (hn : j < n) (hN : n < 2 ^ 31) (d : decode cc pc = .ok (.bastore, 1)) (e : pc + 1 = pc') (kk : V K nL (pM cell cs ad (mI M c j y)) n1 n2 pc' lv st) : V K nL (pM cell cs ad M) n1 n2 pc lv (.int x :: .int i :: .ref (ad c) :: st) := by
  refine v_atD (fun hD => ?_)
  obtain ⟨q0, h1, h2⟩ := pM_at (ad := ad) hm (he (M.1 c) (M.2 c))
  subst hj
  refine v_zast X q0 h2 hxy (vp_in_nI hn hN) (nI_clamp (Nat.lt_trans hn hN)) d e ?_
  rw [pM_set1 hD h1 (f := upd (M.1 c) j y) (he _ _)]
  exact kk
theorem p_last (X : vOk K cc own nL) (hm : c ∈ cs) {n : Nat} (he : ∀ f g, cell c f g = .inl (kY K 1, n, .inr (.inl g))) {i : Int32} {x : Int64} (j : Nat) (hj : i = nI j) (hn : j < n) (hN : n < 2 ^ 31) (d : decode cc pc = .ok (.lastore, 1)) (e : pc + 1 = pc') (kk : V K nL (pM cell cs ad (mL M c j x)) n1 n2 pc' lv st) : V K nL (pM cell cs ad M) n1 n2 pc lv (.long x :: .int i :: .ref (ad c) :: st) := by
  refine v_atD (fun hD => ?_)
  obtain ⟨q0, h1, h2⟩ := pM_at (ad := ad) hm (he (M.1 c) (M.2 c))
  subst hj
  refine v_last X q0 h2 (vp_in_nI hn hN) (nI_clamp (Nat.lt_trans hn hN)) d e ?_
  rw [pM_set2 hD h1 (f := vp_updL (M.2 c) j x) (he _ _)]
  exact kk
theorem p_aald (X : vOk K cc own nL) (hm : c ∈ cs) (t0 : Nat) {cA : ClassId} {C : String} {n : Nat} {F : Nat → Option Nat} (he : ∀ f g, cell c f g = .inl (cA, n, .inr (.inr (.inr (.inr F))))) (ht : (vTy (kY K))[t0]? = some (cA, .object C)) {i : Int32} (j : Nat) (hj : i = nI j) (hn : j < n) (hN : n < 2 ^ 31) {v : Nat} (hv : F j = some v) (d : decode cc pc = .ok (.aaload, 1)) (e : pc + 1 = pc') (kk : V K nL (pM cell cs ad M) n1 n2 pc' lv (.ref v :: st)) : V K nL (pM cell cs ad M) n1 n2 pc lv (.int i :: .ref (ad c) :: st) := by
  obtain ⟨q0, -, h2⟩ := pM_at (ad := ad) hm (he (M.1 c) (M.2 c))
  subst hj
  exact v_aald X q0 t0 h2 ht (vp_in_nI hn hN) (v := some v) (by rw [nI_clamp (Nat.lt_trans hn hN)]; exact hv) d e kk
theorem p_recv (hm : c ∈ cs) {ci : Nat} {fs : List Value} (he : cell c (M.1 c) (M.2 c) = .inr (ci, fs)) {q : vw_C} (hc : vwCl[ci]? = some q) {C : String} (hC : q.1 = C) : ∃ (q0 ci : Nat) (fs : List Value) (q : vw_C), (pM cell cs ad M)[q0]? = some (ad c, .inr (ci, fs)) ∧ vwCl[ci]? = some q ∧ q.1 = C := by
  obtain ⟨q0, -, h2⟩ := pM_at (ad := ad) hm he
  exact ⟨q0, ci, fs, q, h2, hc, hC⟩
end PROWS
section VVAR
variable {K : vKt} {cc : ByteArray} {own : String} {nL n1 n2 pc pc' : Nat} {ws : va_W} {lv : List (Nat × Value)} {st : List Value}
theorem v_iaddV (X : vOk K cc own nL) {x y v : Int32} (hv : x + y = v) (d : decode cc pc = .ok (.iadd, 1)) (e : pc + 1 = pc') (k : V K nL ws n1 n2 pc' lv (.int v :: st)) : V K nL ws n1 n2 pc lv (.int y :: .int x :: st) := v_iadd X d e (hv ▸ k)
theorem v_isubV (X : vOk K cc own nL) {x y v : Int32} (hv : x - y = v) (d : decode cc pc = .ok (.isub, 1)) (e : pc + 1 = pc') (k : V K nL ws n1 n2 pc' lv (.int v :: st)) : V K nL ws n1 n2 pc lv (.int y :: .int x :: st) := v_isub X d e (hv ▸ k)
theorem v_imulV (X : vOk K cc own nL) {x y v : Int32} (hv : x * y = v) (d : decode cc pc = .ok (.imul, 1)) (e : pc + 1 = pc') (k : V K nL ws n1 n2 pc' lv (.int v :: st)) : V K nL ws n1 n2 pc lv (.int y :: .int x :: st) := v_imul X d e (hv ▸ k)
theorem v_lcmpV (X : vOk K cc own nL) {x y : Int64} {v : Int32} (hv : lg_cmp x y = v) (d : decode cc pc = .ok (.lcmp, 1)) (e : pc + 1 = pc') (k : V K nL ws n1 n2 pc' lv (.int v :: st)) : V K nL ws n1 n2 pc lv (.long y :: .long x :: st) := v_lcmp X d e (hv ▸ k)
theorem v_st1 {a b : Value} (h : a = b) (k : V K nL ws n1 n2 pc lv (b :: st)) : V K nL ws n1 n2 pc lv (a :: st) := h ▸ k
end VVAR
theorem nI_dec {a : Nat} (k : Nat) (h : k ≤ a) : nI a + Int32.ofInt (-(k : Int)) = nI (a - k) := by
  have e1 := pk_sub (a := a) (b := k) h
  rw [← e1, Int32.sub_eq_add_neg]
  congr 1
  apply Int32.toBitVec_inj.mp
  simp [nI, Int32.toBitVec_ofInt]
theorem le_of_nI {a b : Nat} (h : nI a ≤ nI b) (ha : a < 2 ^ 31) (hb : b < 2 ^ 31) : a ≤ b := (nI_leI ha hb).mp h
theorem lt_of_nI {a b : Nat} (h : nI a < nI b) (ha : a < 2 ^ 31) (hb : b < 2 ^ 31) : a < b := (nI_ltI ha hb).mp h
theorem eq_of_nI {a b : Nat} (h : nI a = nI b) (ha : a < 2 ^ 31) (hb : b < 2 ^ 31) : a = b := (nI_eq ha hb).mp h
theorem mRL_self (M : vM) (c : Nat) : mRL M c (M.2 c) = M := by
  show (M.1, va_up M.2 c (M.2 c)) = M
  have e1 : va_up M.2 c (M.2 c) = M.2 := by
    funext x
    by_cases hx : x = c
    · subst hx; exact va_up_self _ _ _
    · exact va_up_ne _ _ hx
  rw [e1]
theorem mRI_self (M : vM) (c : Nat) : mRI M c (M.1 c) = M := by
  show (va_up M.1 c (M.1 c), M.2) = M
  have e1 : va_up M.1 c (M.1 c) = M.1 := by
    funext x
    by_cases hx : x = c
    · subst hx; exact va_up_self _ _ _
    · exact va_up_ne _ _ hx
  rw [e1]
theorem mL_mRL (M : vM) (c : Nat) (f : Nat → Int64) (k : Nat) (v : Int64) : mL (mRL M c f) c k v = mRL M c (vp_updL f k v) := by
  show (M.1, va_up (va_up M.2 c f) c (vp_updL (va_up M.2 c f c) k v)) = _
  rw [bx_uu, va_up_self]; rfl
theorem mI_mRI (M : vM) (c : Nat) (f : Nat → Int32) (k : Nat) (v : Int32) : mI (mRI M c f) c k v = mRI M c (upd f k v) := by
  show (va_up (va_up M.1 c f) c (upd (va_up M.1 c f c) k v), M.2) = _
  rw [bx_uu, va_up_self]; rfl
/-- d with its places o .. o + j - 1 taken from s's p .. -/
def vcp {α : Type} (s : Nat → α) (p o j : Nat) (d : Nat → α) : Nat → α := fun q => if o ≤ q ∧ q < o + j then s (p + (q - o)) else d q
theorem vcp_0 {α : Type} (s : Nat → α) (p o : Nat) (d : Nat → α) : vcp s p o 0 d = d := by
  funext q; exact if_neg (by omega)
theorem vcp_sL (s : Nat → Int64) (p o j : Nat) (d : Nat → Int64) : vp_updL (vcp s p o j d) (o + j) (s (p + j)) = vcp s p o (j + 1) d := by
  funext q
  show (if q = o + j then s (p + j) else vcp s p o j d q) = _
  unfold vcp
  by_cases h1 : q = o + j
  · subst h1; rw [if_pos rfl, if_pos (by omega)]; congr 1; omega
  · rw [if_neg h1]
    by_cases h2 : o ≤ q ∧ q < o + j
    · rw [if_pos h2, if_pos (by omega)]
    · rw [if_neg h2, if_neg (by omega)]
theorem vcp_sI (s : Nat → Int32) (p o j : Nat) (d : Nat → Int32) : upd (vcp s p o j d) (o + j) (s (p + j)) = vcp s p o (j + 1) d := by
  funext q
  show (if q = o + j then s (p + j) else vcp s p o j d q) = _
  unfold vcp
  by_cases h1 : q = o + j
  · subst h1; rw [if_pos rfl, if_pos (by omega)]; congr 1; omega
  · rw [if_neg h1]
    by_cases h2 : o ≤ q ∧ q < o + j
    · rw [if_pos h2, if_pos (by omega)]
    · rw [if_neg h2, if_neg (by omega)]
end
section
/-! THE REFERENCE'S MEMORY. Codes: 0 the object, 9 .. 21 its rows (by their slots), tb i the task i, tb i + 8 .. tb i + 17 its rows (by their slots). -/
def tb (i : Nat) : Nat := 30 + 20 * i
def FM (ad : Nat → Nat) (f : Nat → Int32) : List Value := [.int (f 0), .int (f 1), .int (f 2), .int (f 3), .int (f 4), .int (f 5), .int (f 6), .int (f 7), .int (f 8), .ref (ad 9), .ref (ad 10), .ref (ad 11), .ref (ad 12), .ref (ad 13), .ref (ad 14), .ref (ad 15), .ref (ad 16), .ref (ad 17), .ref (ad 18), .ref (ad 19), .ref (ad 20), .ref (ad 21)]
def FT (ad : Nat → Nat) (c : Nat) (f : Nat → Int32) : List Value := [.int (f 0), .int (f 1), .int (f 2), .int (f 3), .int (f 4), .int (f 5), .int (f 6), .int (f 7), .ref (ad (c + 8)), .ref (ad (c + 9)), .ref (ad (c + 10)), .ref (ad (c + 11)), .ref (ad (c + 12)), .ref (ad (c + 13)), .ref (ad (c + 14)), .ref (ad (c + 15)), .ref (ad (c + 16)), .ref (ad (c + 17))]
def mTk (n : Nat) (ad : Nat → Nat) : Nat → Option Nat := fun j => if j < n then some (ad (tb j)) else none
def cM (n : Nat) (ad : Nat → Nat) (Y : Nat → ClassId) : vCell := fun c f g => if c = 0 then .inr (8, FM ad f) else if c < 13 then .inl (Y 0, 1000, .inl f) else if c = 13 then .inl (Y 3, 16, .inr (.inr (.inr (.inr (mTk n ad))))) else if c = 14 then .inl (Y 1, 8, .inr (.inl g)) else if c < 17 then .inl (Y 1, 200, .inr (.inl g)) else if c < 19 then .inl (Y 2, 200, .inl f) else if c < 22 then .inl (Y 0, 200, .inl f) else if (c - 30) % 20 = 0 then .inr (7, FT ad c f) else if (c - 30) % 20 = 8 then .inl (Y 1, 16, .inr (.inl g)) else if (c - 30) % 20 = 9 then .inl (Y 1, 384, .inr (.inl g)) else if (c - 30) % 20 = 10 then .inl (Y 0, 40, .inl f) else if (c - 30) % 20 < 15 then .inl (Y 0, 24, .inl f) else .inl (Y 1, 40, .inr (.inl g))
def csM (n : Nat) : List Nat := [0, 9, 10, 11, 12, 13, 14, 15, 16, 17, 18, 19, 20, 21] ++ (List.range n).flatMap (fun i => [tb i, tb i + 8, tb i + 9, tb i + 10, tb i + 11, tb i + 12, tb i + 13, tb i + 14, tb i + 15, tb i + 16, tb i + 17])
section MROLES
variable {n : Nat} {ad : Nat → Nat} {Y : Nat → ClassId} {i : Nat}
theorem mM_0 : 0 ∈ csM n := by simp [csM]
theorem hM_0 : ∀ f g, cM n ad Y 0 f g = .inr (8, FM ad f) := fun f g => rfl
theorem mM_9 : 9 ∈ csM n := by simp [csM]
theorem hM_9 : ∀ f g, cM n ad Y 9 f g = .inl (Y 0, 1000, .inl f) := fun f g => rfl
theorem mM_10 : 10 ∈ csM n := by simp [csM]
theorem hM_10 : ∀ f g, cM n ad Y 10 f g = .inl (Y 0, 1000, .inl f) := fun f g => rfl
theorem mM_11 : 11 ∈ csM n := by simp [csM]
theorem hM_11 : ∀ f g, cM n ad Y 11 f g = .inl (Y 0, 1000, .inl f) := fun f g => rfl
theorem mM_12 : 12 ∈ csM n := by simp [csM]
theorem hM_12 : ∀ f g, cM n ad Y 12 f g = .inl (Y 0, 1000, .inl f) := fun f g => rfl
theorem mM_13 : 13 ∈ csM n := by simp [csM]
theorem hM_13 : ∀ f g, cM n ad Y 13 f g = .inl (Y 3, 16, .inr (.inr (.inr (.inr (mTk n ad))))) := fun f g => rfl
theorem mM_14 : 14 ∈ csM n := by simp [csM]
theorem hM_14 : ∀ f g, cM n ad Y 14 f g = .inl (Y 1, 8, .inr (.inl g)) := fun f g => rfl
theorem mM_15 : 15 ∈ csM n := by simp [csM]
theorem hM_15 : ∀ f g, cM n ad Y 15 f g = .inl (Y 1, 200, .inr (.inl g)) := fun f g => rfl
theorem mM_16 : 16 ∈ csM n := by simp [csM]
theorem hM_16 : ∀ f g, cM n ad Y 16 f g = .inl (Y 1, 200, .inr (.inl g)) := fun f g => rfl
theorem mM_17 : 17 ∈ csM n := by simp [csM]
theorem hM_17 : ∀ f g, cM n ad Y 17 f g = .inl (Y 2, 200, .inl f) := fun f g => rfl
theorem mM_18 : 18 ∈ csM n := by simp [csM]
theorem hM_18 : ∀ f g, cM n ad Y 18 f g = .inl (Y 2, 200, .inl f) := fun f g => rfl
theorem mM_19 : 19 ∈ csM n := by simp [csM]
theorem hM_19 : ∀ f g, cM n ad Y 19 f g = .inl (Y 0, 200, .inl f) := fun f g => rfl
theorem mM_20 : 20 ∈ csM n := by simp [csM]
theorem hM_20 : ∀ f g, cM n ad Y 20 f g = .inl (Y 0, 200, .inl f) := fun f g => rfl
theorem mM_21 : 21 ∈ csM n := by simp [csM]
theorem hM_21 : ∀ f g, cM n ad Y 21 f g = .inl (Y 0, 200, .inl f) := fun f g => rfl
theorem mT_0 (h : i < n) : tb i ∈ csM n := List.mem_append_right _ (List.mem_flatMap.mpr ⟨i, List.mem_range.mpr h, by simp⟩)
theorem hT_0 : ∀ f g, cM n ad Y (tb i) f g = .inr (7, FT ad (tb i) f) := fun f g => by unfold cM; rw [if_neg (by unfold tb; omega), if_neg (by unfold tb; omega), if_neg (by unfold tb; omega), if_neg (by unfold tb; omega), if_neg (by unfold tb; omega), if_neg (by unfold tb; omega), if_neg (by unfold tb; omega), if_pos (by unfold tb; omega)]
theorem mT_8 (h : i < n) : tb i + 8 ∈ csM n := List.mem_append_right _ (List.mem_flatMap.mpr ⟨i, List.mem_range.mpr h, by simp⟩)
theorem hT_8 : ∀ f g, cM n ad Y (tb i + 8) f g = .inl (Y 1, 16, .inr (.inl g)) := fun f g => by unfold cM; rw [if_neg (by unfold tb; omega), if_neg (by unfold tb; omega), if_neg (by unfold tb; omega), if_neg (by unfold tb; omega), if_neg (by unfold tb; omega), if_neg (by unfold tb; omega), if_neg (by unfold tb; omega), if_neg (by unfold tb; omega), if_pos (by unfold tb; omega)]
theorem mT_9 (h : i < n) : tb i + 9 ∈ csM n := List.mem_append_right _ (List.mem_flatMap.mpr ⟨i, List.mem_range.mpr h, by simp⟩)
theorem hT_9 : ∀ f g, cM n ad Y (tb i + 9) f g = .inl (Y 1, 384, .inr (.inl g)) := fun f g => by unfold cM; rw [if_neg (by unfold tb; omega), if_neg (by unfold tb; omega), if_neg (by unfold tb; omega), if_neg (by unfold tb; omega), if_neg (by unfold tb; omega), if_neg (by unfold tb; omega), if_neg (by unfold tb; omega), if_neg (by unfold tb; omega), if_neg (by unfold tb; omega), if_pos (by unfold tb; omega)]
theorem mT_10 (h : i < n) : tb i + 10 ∈ csM n := List.mem_append_right _ (List.mem_flatMap.mpr ⟨i, List.mem_range.mpr h, by simp⟩)
theorem hT_10 : ∀ f g, cM n ad Y (tb i + 10) f g = .inl (Y 0, 40, .inl f) := fun f g => by unfold cM; rw [if_neg (by unfold tb; omega), if_neg (by unfold tb; omega), if_neg (by unfold tb; omega), if_neg (by unfold tb; omega), if_neg (by unfold tb; omega), if_neg (by unfold tb; omega), if_neg (by unfold tb; omega), if_neg (by unfold tb; omega), if_neg (by unfold tb; omega), if_neg (by unfold tb; omega), if_pos (by unfold tb; omega)]
theorem mT_11 (h : i < n) : tb i + 11 ∈ csM n := List.mem_append_right _ (List.mem_flatMap.mpr ⟨i, List.mem_range.mpr h, by simp⟩)
theorem hT_11 : ∀ f g, cM n ad Y (tb i + 11) f g = .inl (Y 0, 24, .inl f) := fun f g => by unfold cM; rw [if_neg (by unfold tb; omega), if_neg (by unfold tb; omega), if_neg (by unfold tb; omega), if_neg (by unfold tb; omega), if_neg (by unfold tb; omega), if_neg (by unfold tb; omega), if_neg (by unfold tb; omega), if_neg (by unfold tb; omega), if_neg (by unfold tb; omega), if_neg (by unfold tb; omega), if_neg (by unfold tb; omega), if_pos (by unfold tb; omega)]
theorem mT_12 (h : i < n) : tb i + 12 ∈ csM n := List.mem_append_right _ (List.mem_flatMap.mpr ⟨i, List.mem_range.mpr h, by simp⟩)
theorem hT_12 : ∀ f g, cM n ad Y (tb i + 12) f g = .inl (Y 0, 24, .inl f) := fun f g => by unfold cM; rw [if_neg (by unfold tb; omega), if_neg (by unfold tb; omega), if_neg (by unfold tb; omega), if_neg (by unfold tb; omega), if_neg (by unfold tb; omega), if_neg (by unfold tb; omega), if_neg (by unfold tb; omega), if_neg (by unfold tb; omega), if_neg (by unfold tb; omega), if_neg (by unfold tb; omega), if_neg (by unfold tb; omega), if_pos (by unfold tb; omega)]
theorem mT_13 (h : i < n) : tb i + 13 ∈ csM n := List.mem_append_right _ (List.mem_flatMap.mpr ⟨i, List.mem_range.mpr h, by simp⟩)
theorem hT_13 : ∀ f g, cM n ad Y (tb i + 13) f g = .inl (Y 0, 24, .inl f) := fun f g => by unfold cM; rw [if_neg (by unfold tb; omega), if_neg (by unfold tb; omega), if_neg (by unfold tb; omega), if_neg (by unfold tb; omega), if_neg (by unfold tb; omega), if_neg (by unfold tb; omega), if_neg (by unfold tb; omega), if_neg (by unfold tb; omega), if_neg (by unfold tb; omega), if_neg (by unfold tb; omega), if_neg (by unfold tb; omega), if_pos (by unfold tb; omega)]
theorem mT_14 (h : i < n) : tb i + 14 ∈ csM n := List.mem_append_right _ (List.mem_flatMap.mpr ⟨i, List.mem_range.mpr h, by simp⟩)
theorem hT_14 : ∀ f g, cM n ad Y (tb i + 14) f g = .inl (Y 0, 24, .inl f) := fun f g => by unfold cM; rw [if_neg (by unfold tb; omega), if_neg (by unfold tb; omega), if_neg (by unfold tb; omega), if_neg (by unfold tb; omega), if_neg (by unfold tb; omega), if_neg (by unfold tb; omega), if_neg (by unfold tb; omega), if_neg (by unfold tb; omega), if_neg (by unfold tb; omega), if_neg (by unfold tb; omega), if_neg (by unfold tb; omega), if_pos (by unfold tb; omega)]
theorem mT_15 (h : i < n) : tb i + 15 ∈ csM n := List.mem_append_right _ (List.mem_flatMap.mpr ⟨i, List.mem_range.mpr h, by simp⟩)
theorem hT_15 : ∀ f g, cM n ad Y (tb i + 15) f g = .inl (Y 1, 40, .inr (.inl g)) := fun f g => by unfold cM; rw [if_neg (by unfold tb; omega), if_neg (by unfold tb; omega), if_neg (by unfold tb; omega), if_neg (by unfold tb; omega), if_neg (by unfold tb; omega), if_neg (by unfold tb; omega), if_neg (by unfold tb; omega), if_neg (by unfold tb; omega), if_neg (by unfold tb; omega), if_neg (by unfold tb; omega), if_neg (by unfold tb; omega), if_neg (by unfold tb; omega)]
theorem mT_16 (h : i < n) : tb i + 16 ∈ csM n := List.mem_append_right _ (List.mem_flatMap.mpr ⟨i, List.mem_range.mpr h, by simp⟩)
theorem hT_16 : ∀ f g, cM n ad Y (tb i + 16) f g = .inl (Y 1, 40, .inr (.inl g)) := fun f g => by unfold cM; rw [if_neg (by unfold tb; omega), if_neg (by unfold tb; omega), if_neg (by unfold tb; omega), if_neg (by unfold tb; omega), if_neg (by unfold tb; omega), if_neg (by unfold tb; omega), if_neg (by unfold tb; omega), if_neg (by unfold tb; omega), if_neg (by unfold tb; omega), if_neg (by unfold tb; omega), if_neg (by unfold tb; omega), if_neg (by unfold tb; omega)]
theorem mT_17 (h : i < n) : tb i + 17 ∈ csM n := List.mem_append_right _ (List.mem_flatMap.mpr ⟨i, List.mem_range.mpr h, by simp⟩)
theorem hT_17 : ∀ f g, cM n ad Y (tb i + 17) f g = .inl (Y 1, 40, .inr (.inl g)) := fun f g => by unfold cM; rw [if_neg (by unfold tb; omega), if_neg (by unfold tb; omega), if_neg (by unfold tb; omega), if_neg (by unfold tb; omega), if_neg (by unfold tb; omega), if_neg (by unfold tb; omega), if_neg (by unfold tb; omega), if_neg (by unfold tb; omega), if_neg (by unfold tb; omega), if_neg (by unfold tb; omega), if_neg (by unfold tb; omega), if_neg (by unfold tb; omega)]
end MROLES
section MACC
variable {K : vKt} {cc : ByteArray} {nL n1 n2 pc pc' : Nat} {lv : List (Nat × Value)} {st : List Value} {n : Nat} {ad : Nat → Nat} {M : vM} {i : Nat}
/-- the reference's world -/
abbrev wM (Y : Nat → ClassId) (n : Nat) (ad : Nat → Nat) (M : vM) : va_W := pM (cM n ad Y) (csM n) ad M
theorem fg_X8_15 (X : vOk K cc RX8 nL) (hi : i < n) (d : decode cc pc = .ok (.getfield 15, 3)) (e : pc + 3 = pc') (kk : V K nL (wM (kY K) n ad M) n1 n2 pc' lv (.ref (ad (tb i + 8)) :: st)) : V K nL (wM (kY K) n ad M) n1 n2 pc lv (.ref (ad (tb i)) :: st) := p_get X inX8 (mT_0 hi) (hT_0 _ _) rfl 8 (by decide) w_fl_X8_15 rfl rfl d e kk
theorem fg_X8_19 (X : vOk K cc RX8 nL) (hi : i < n) (d : decode cc pc = .ok (.getfield 19, 3)) (e : pc + 3 = pc') (kk : V K nL (wM (kY K) n ad M) n1 n2 pc' lv (.ref (ad (tb i + 9)) :: st)) : V K nL (wM (kY K) n ad M) n1 n2 pc lv (.ref (ad (tb i)) :: st) := p_get X inX8 (mT_0 hi) (hT_0 _ _) rfl 9 (by decide) w_fl_X8_19 rfl rfl d e kk
theorem fg_X8_22 (X : vOk K cc RX8 nL) (hi : i < n) (d : decode cc pc = .ok (.getfield 22, 3)) (e : pc + 3 = pc') (kk : V K nL (wM (kY K) n ad M) n1 n2 pc' lv (.ref (ad (tb i + 10)) :: st)) : V K nL (wM (kY K) n ad M) n1 n2 pc lv (.ref (ad (tb i)) :: st) := p_get X inX8 (mT_0 hi) (hT_0 _ _) rfl 10 (by decide) w_fl_X8_22 rfl rfl d e kk
theorem fg_X8_26 (X : vOk K cc RX8 nL) (hi : i < n) (d : decode cc pc = .ok (.getfield 26, 3)) (e : pc + 3 = pc') (kk : V K nL (wM (kY K) n ad M) n1 n2 pc' lv (.ref (ad (tb i + 11)) :: st)) : V K nL (wM (kY K) n ad M) n1 n2 pc lv (.ref (ad (tb i)) :: st) := p_get X inX8 (mT_0 hi) (hT_0 _ _) rfl 11 (by decide) w_fl_X8_26 rfl rfl d e kk
theorem fg_X8_29 (X : vOk K cc RX8 nL) (hi : i < n) (d : decode cc pc = .ok (.getfield 29, 3)) (e : pc + 3 = pc') (kk : V K nL (wM (kY K) n ad M) n1 n2 pc' lv (.ref (ad (tb i + 12)) :: st)) : V K nL (wM (kY K) n ad M) n1 n2 pc lv (.ref (ad (tb i)) :: st) := p_get X inX8 (mT_0 hi) (hT_0 _ _) rfl 12 (by decide) w_fl_X8_29 rfl rfl d e kk
theorem fg_X8_32 (X : vOk K cc RX8 nL) (hi : i < n) (d : decode cc pc = .ok (.getfield 32, 3)) (e : pc + 3 = pc') (kk : V K nL (wM (kY K) n ad M) n1 n2 pc' lv (.ref (ad (tb i + 13)) :: st)) : V K nL (wM (kY K) n ad M) n1 n2 pc lv (.ref (ad (tb i)) :: st) := p_get X inX8 (mT_0 hi) (hT_0 _ _) rfl 13 (by decide) w_fl_X8_32 rfl rfl d e kk
theorem fg_X8_35 (X : vOk K cc RX8 nL) (hi : i < n) (d : decode cc pc = .ok (.getfield 35, 3)) (e : pc + 3 = pc') (kk : V K nL (wM (kY K) n ad M) n1 n2 pc' lv (.ref (ad (tb i + 14)) :: st)) : V K nL (wM (kY K) n ad M) n1 n2 pc lv (.ref (ad (tb i)) :: st) := p_get X inX8 (mT_0 hi) (hT_0 _ _) rfl 14 (by decide) w_fl_X8_35 rfl rfl d e kk
theorem fg_X8_38 (X : vOk K cc RX8 nL) (hi : i < n) (d : decode cc pc = .ok (.getfield 38, 3)) (e : pc + 3 = pc') (kk : V K nL (wM (kY K) n ad M) n1 n2 pc' lv (.ref (ad (tb i + 15)) :: st)) : V K nL (wM (kY K) n ad M) n1 n2 pc lv (.ref (ad (tb i)) :: st) := p_get X inX8 (mT_0 hi) (hT_0 _ _) rfl 15 (by decide) w_fl_X8_38 rfl rfl d e kk
theorem fg_X8_41 (X : vOk K cc RX8 nL) (hi : i < n) (d : decode cc pc = .ok (.getfield 41, 3)) (e : pc + 3 = pc') (kk : V K nL (wM (kY K) n ad M) n1 n2 pc' lv (.ref (ad (tb i + 16)) :: st)) : V K nL (wM (kY K) n ad M) n1 n2 pc lv (.ref (ad (tb i)) :: st) := p_get X inX8 (mT_0 hi) (hT_0 _ _) rfl 16 (by decide) w_fl_X8_41 rfl rfl d e kk
theorem fg_X8_44 (X : vOk K cc RX8 nL) (hi : i < n) (d : decode cc pc = .ok (.getfield 44, 3)) (e : pc + 3 = pc') (kk : V K nL (wM (kY K) n ad M) n1 n2 pc' lv (.ref (ad (tb i + 17)) :: st)) : V K nL (wM (kY K) n ad M) n1 n2 pc lv (.ref (ad (tb i)) :: st) := p_get X inX8 (mT_0 hi) (hT_0 _ _) rfl 17 (by decide) w_fl_X8_44 rfl rfl d e kk
theorem fg_X8_47 (X : vOk K cc RX8 nL) (hi : i < n) {v : Int32} (hv : M.1 (tb i) 4 = v) (d : decode cc pc = .ok (.getfield 47, 3)) (e : pc + 3 = pc') (kk : V K nL (wM (kY K) n ad M) n1 n2 pc' lv (.int v :: st)) : V K nL (wM (kY K) n ad M) n1 n2 pc lv (.ref (ad (tb i)) :: st) := p_get X inX8 (mT_0 hi) (hT_0 _ _) rfl 4 (by decide) w_fl_X8_47 rfl (v := .int v) (by rw [← hv]; rfl) d e kk
theorem fp_X8_47 (X : vOk K cc RX8 nL) (hi : i < n) {v : Int32} (d : decode cc pc = .ok (.putfield 47, 3)) (e : pc + 3 = pc') (kk : V K nL (wM (kY K) n ad (mI M (tb i) 4 v)) n1 n2 pc' lv st) : V K nL (wM (kY K) n ad M) n1 n2 pc lv (.int v :: .ref (ad (tb i)) :: st) := p_put X inX8 tyX8 tyX8_ok nmX8 (mT_0 hi) (F := FT ad (tb i)) hT_0 rfl 4 (by decide) w_fl_X8_47 rfl rfl (by decide +kernel) (fun _ => rfl) (fun _ => Nat.le_of_ble_eq_true rfl) d e kk
theorem fg_X8_50 (X : vOk K cc RX8 nL) (hi : i < n) {v : Int32} (hv : M.1 (tb i) 3 = v) (d : decode cc pc = .ok (.getfield 50, 3)) (e : pc + 3 = pc') (kk : V K nL (wM (kY K) n ad M) n1 n2 pc' lv (.int v :: st)) : V K nL (wM (kY K) n ad M) n1 n2 pc lv (.ref (ad (tb i)) :: st) := p_get X inX8 (mT_0 hi) (hT_0 _ _) rfl 3 (by decide) w_fl_X8_50 rfl (v := .int v) (by rw [← hv]; rfl) d e kk
theorem fp_X8_50 (X : vOk K cc RX8 nL) (hi : i < n) {v : Int32} (d : decode cc pc = .ok (.putfield 50, 3)) (e : pc + 3 = pc') (kk : V K nL (wM (kY K) n ad (mI M (tb i) 3 v)) n1 n2 pc' lv st) : V K nL (wM (kY K) n ad M) n1 n2 pc lv (.int v :: .ref (ad (tb i)) :: st) := p_put X inX8 tyX8 tyX8_ok nmX8 (mT_0 hi) (F := FT ad (tb i)) hT_0 rfl 3 (by decide) w_fl_X8_50 rfl rfl (by decide +kernel) (fun _ => rfl) (fun _ => Nat.le_of_ble_eq_true rfl) d e kk
theorem fg_X8_53 (X : vOk K cc RX8 nL) (hi : i < n) {v : Int32} (hv : M.1 (tb i) 6 = v) (d : decode cc pc = .ok (.getfield 53, 3)) (e : pc + 3 = pc') (kk : V K nL (wM (kY K) n ad M) n1 n2 pc' lv (.int v :: st)) : V K nL (wM (kY K) n ad M) n1 n2 pc lv (.ref (ad (tb i)) :: st) := p_get X inX8 (mT_0 hi) (hT_0 _ _) rfl 6 (by decide) w_fl_X8_53 rfl (v := .int v) (by rw [← hv]; rfl) d e kk
theorem fp_X8_53 (X : vOk K cc RX8 nL) (hi : i < n) {v : Int32} (d : decode cc pc = .ok (.putfield 53, 3)) (e : pc + 3 = pc') (kk : V K nL (wM (kY K) n ad (mI M (tb i) 6 v)) n1 n2 pc' lv st) : V K nL (wM (kY K) n ad M) n1 n2 pc lv (.int v :: .ref (ad (tb i)) :: st) := p_put X inX8 tyX8 tyX8_ok nmX8 (mT_0 hi) (F := FT ad (tb i)) hT_0 rfl 6 (by decide) w_fl_X8_53 rfl rfl (by decide +kernel) (fun _ => rfl) (fun _ => Nat.le_of_ble_eq_true rfl) d e kk
theorem fg_X8_60 (X : vOk K cc RX8 nL) (hi : i < n) {v : Int32} (hv : M.1 (tb i) 2 = v) (d : decode cc pc = .ok (.getfield 60, 3)) (e : pc + 3 = pc') (kk : V K nL (wM (kY K) n ad M) n1 n2 pc' lv (.int v :: st)) : V K nL (wM (kY K) n ad M) n1 n2 pc lv (.ref (ad (tb i)) :: st) := p_get X inX8 (mT_0 hi) (hT_0 _ _) rfl 2 (by decide) w_fl_X8_60 rfl (v := .int v) (by rw [← hv]; rfl) d e kk
theorem fp_X8_60 (X : vOk K cc RX8 nL) (hi : i < n) {v : Int32} (d : decode cc pc = .ok (.putfield 60, 3)) (e : pc + 3 = pc') (kk : V K nL (wM (kY K) n ad (mI M (tb i) 2 v)) n1 n2 pc' lv st) : V K nL (wM (kY K) n ad M) n1 n2 pc lv (.int v :: .ref (ad (tb i)) :: st) := p_put X inX8 tyX8 tyX8_ok nmX8 (mT_0 hi) (F := FT ad (tb i)) hT_0 rfl 2 (by decide) w_fl_X8_60 rfl rfl (by decide +kernel) (fun _ => rfl) (fun _ => Nat.le_of_ble_eq_true rfl) d e kk
theorem fg_X8_67 (X : vOk K cc RX8 nL) (hi : i < n) {v : Int32} (hv : M.1 (tb i) 5 = v) (d : decode cc pc = .ok (.getfield 67, 3)) (e : pc + 3 = pc') (kk : V K nL (wM (kY K) n ad M) n1 n2 pc' lv (.int v :: st)) : V K nL (wM (kY K) n ad M) n1 n2 pc lv (.ref (ad (tb i)) :: st) := p_get X inX8 (mT_0 hi) (hT_0 _ _) rfl 5 (by decide) w_fl_X8_67 rfl (v := .int v) (by rw [← hv]; rfl) d e kk
theorem fp_X8_67 (X : vOk K cc RX8 nL) (hi : i < n) {v : Int32} (d : decode cc pc = .ok (.putfield 67, 3)) (e : pc + 3 = pc') (kk : V K nL (wM (kY K) n ad (mI M (tb i) 5 v)) n1 n2 pc' lv st) : V K nL (wM (kY K) n ad M) n1 n2 pc lv (.int v :: .ref (ad (tb i)) :: st) := p_put X inX8 tyX8 tyX8_ok nmX8 (mT_0 hi) (F := FT ad (tb i)) hT_0 rfl 5 (by decide) w_fl_X8_67 rfl rfl (by decide +kernel) (fun _ => rfl) (fun _ => Nat.le_of_ble_eq_true rfl) d e kk
theorem fg_X8_70 (X : vOk K cc RX8 nL) (hi : i < n) {v : Int32} (hv : M.1 (tb i) 7 = v) (d : decode cc pc = .ok (.getfield 70, 3)) (e : pc + 3 = pc') (kk : V K nL (wM (kY K) n ad M) n1 n2 pc' lv (.int v :: st)) : V K nL (wM (kY K) n ad M) n1 n2 pc lv (.ref (ad (tb i)) :: st) := p_get X inX8 (mT_0 hi) (hT_0 _ _) rfl 7 (by decide) w_fl_X8_70 rfl (v := .int v) (by rw [← hv]; rfl) d e kk
theorem fp_X8_70 (X : vOk K cc RX8 nL) (hi : i < n) {v : Int32} (d : decode cc pc = .ok (.putfield 70, 3)) (e : pc + 3 = pc') (kk : V K nL (wM (kY K) n ad (mI M (tb i) 7 v)) n1 n2 pc' lv st) : V K nL (wM (kY K) n ad M) n1 n2 pc lv (.int v :: .ref (ad (tb i)) :: st) := p_put X inX8 tyX8 tyX8_ok nmX8 (mT_0 hi) (F := FT ad (tb i)) hT_0 rfl 7 (by decide) w_fl_X8_70 rfl rfl (by decide +kernel) (fun _ => rfl) (fun _ => Nat.le_of_ble_eq_true rfl) d e kk
theorem fg_X8_73 (X : vOk K cc RX8 nL) (hi : i < n) {v : Int32} (hv : M.1 (tb i) 1 = v) (d : decode cc pc = .ok (.getfield 73, 3)) (e : pc + 3 = pc') (kk : V K nL (wM (kY K) n ad M) n1 n2 pc' lv (.int v :: st)) : V K nL (wM (kY K) n ad M) n1 n2 pc lv (.ref (ad (tb i)) :: st) := p_get X inX8 (mT_0 hi) (hT_0 _ _) rfl 1 (by decide) w_fl_X8_73 rfl (v := .int v) (by rw [← hv]; rfl) d e kk
theorem fp_X8_73 (X : vOk K cc RX8 nL) (hi : i < n) {v : Int32} (d : decode cc pc = .ok (.putfield 73, 3)) (e : pc + 3 = pc') (kk : V K nL (wM (kY K) n ad (mI M (tb i) 1 v)) n1 n2 pc' lv st) : V K nL (wM (kY K) n ad M) n1 n2 pc lv (.int v :: .ref (ad (tb i)) :: st) := p_put X inX8 tyX8 tyX8_ok nmX8 (mT_0 hi) (F := FT ad (tb i)) hT_0 rfl 1 (by decide) w_fl_X8_73 rfl rfl (by decide +kernel) (fun _ => rfl) (fun _ => Nat.le_of_ble_eq_true rfl) d e kk
theorem fg_X8_9 (X : vOk K cc RX8 nL) (hi : i < n) {v : Int32} (hv : M.1 (tb i) 0 = v) (d : decode cc pc = .ok (.getfield 9, 3)) (e : pc + 3 = pc') (kk : V K nL (wM (kY K) n ad M) n1 n2 pc' lv (.int v :: st)) : V K nL (wM (kY K) n ad M) n1 n2 pc lv (.ref (ad (tb i)) :: st) := p_get X inX8 (mT_0 hi) (hT_0 _ _) rfl 0 (by decide) w_fl_X8_9 rfl (v := .int v) (by rw [← hv]; rfl) d e kk
theorem fp_X8_9 (X : vOk K cc RX8 nL) (hi : i < n) {v : Int32} (d : decode cc pc = .ok (.putfield 9, 3)) (e : pc + 3 = pc') (kk : V K nL (wM (kY K) n ad (mI M (tb i) 0 v)) n1 n2 pc' lv st) : V K nL (wM (kY K) n ad M) n1 n2 pc lv (.int v :: .ref (ad (tb i)) :: st) := p_put X inX8 tyX8 tyX8_ok nmX8 (mT_0 hi) (F := FT ad (tb i)) hT_0 rfl 0 (by decide) w_fl_X8_9 rfl rfl (by decide +kernel) (fun _ => rfl) (fun _ => Nat.le_of_ble_eq_true rfl) d e kk
theorem fg_X9_105 (X : vOk K cc RX9 nL) (hi : i < n) (d : decode cc pc = .ok (.getfield 105, 3)) (e : pc + 3 = pc') (kk : V K nL (wM (kY K) n ad M) n1 n2 pc' lv (.ref (ad (tb i + 8)) :: st)) : V K nL (wM (kY K) n ad M) n1 n2 pc lv (.ref (ad (tb i)) :: st) := p_get X inX8 (mT_0 hi) (hT_0 _ _) rfl 8 (by decide) w_fl_X9_105 rfl rfl d e kk
theorem fg_X9_121 (X : vOk K cc RX9 nL) (hi : i < n) {v : Int32} (hv : M.1 (tb i) 4 = v) (d : decode cc pc = .ok (.getfield 121, 3)) (e : pc + 3 = pc') (kk : V K nL (wM (kY K) n ad M) n1 n2 pc' lv (.int v :: st)) : V K nL (wM (kY K) n ad M) n1 n2 pc lv (.ref (ad (tb i)) :: st) := p_get X inX8 (mT_0 hi) (hT_0 _ _) rfl 4 (by decide) w_fl_X9_121 rfl (v := .int v) (by rw [← hv]; rfl) d e kk
theorem fp_X9_121 (X : vOk K cc RX9 nL) (hi : i < n) {v : Int32} (d : decode cc pc = .ok (.putfield 121, 3)) (e : pc + 3 = pc') (kk : V K nL (wM (kY K) n ad (mI M (tb i) 4 v)) n1 n2 pc' lv st) : V K nL (wM (kY K) n ad M) n1 n2 pc lv (.int v :: .ref (ad (tb i)) :: st) := p_put X inX8 tyX8 tyX8_ok nmX8 (mT_0 hi) (F := FT ad (tb i)) hT_0 rfl 4 (by decide) w_fl_X9_121 rfl rfl (by decide +kernel) (fun _ => rfl) (fun _ => Nat.le_of_ble_eq_true rfl) d e kk
theorem fg_X9_124 (X : vOk K cc RX9 nL) (hi : i < n) {v : Int32} (hv : M.1 (tb i) 3 = v) (d : decode cc pc = .ok (.getfield 124, 3)) (e : pc + 3 = pc') (kk : V K nL (wM (kY K) n ad M) n1 n2 pc' lv (.int v :: st)) : V K nL (wM (kY K) n ad M) n1 n2 pc lv (.ref (ad (tb i)) :: st) := p_get X inX8 (mT_0 hi) (hT_0 _ _) rfl 3 (by decide) w_fl_X9_124 rfl (v := .int v) (by rw [← hv]; rfl) d e kk
theorem fp_X9_124 (X : vOk K cc RX9 nL) (hi : i < n) {v : Int32} (d : decode cc pc = .ok (.putfield 124, 3)) (e : pc + 3 = pc') (kk : V K nL (wM (kY K) n ad (mI M (tb i) 3 v)) n1 n2 pc' lv st) : V K nL (wM (kY K) n ad M) n1 n2 pc lv (.int v :: .ref (ad (tb i)) :: st) := p_put X inX8 tyX8 tyX8_ok nmX8 (mT_0 hi) (F := FT ad (tb i)) hT_0 rfl 3 (by decide) w_fl_X9_124 rfl rfl (by decide +kernel) (fun _ => rfl) (fun _ => Nat.le_of_ble_eq_true rfl) d e kk
theorem fg_X9_127 (X : vOk K cc RX9 nL) (hi : i < n) (d : decode cc pc = .ok (.getfield 127, 3)) (e : pc + 3 = pc') (kk : V K nL (wM (kY K) n ad M) n1 n2 pc' lv (.ref (ad (tb i + 10)) :: st)) : V K nL (wM (kY K) n ad M) n1 n2 pc lv (.ref (ad (tb i)) :: st) := p_get X inX8 (mT_0 hi) (hT_0 _ _) rfl 10 (by decide) w_fl_X9_127 rfl rfl d e kk
theorem fg_X9_13 (X : vOk K cc RX9 nL) (d : decode cc pc = .ok (.getfield 13, 3)) (e : pc + 3 = pc') (kk : V K nL (wM (kY K) n ad M) n1 n2 pc' lv (.ref (ad (9)) :: st)) : V K nL (wM (kY K) n ad M) n1 n2 pc lv (.ref (ad (0)) :: st) := p_get X inX9 mM_0 (hM_0 _ _) rfl 9 (by decide) w_fl_X9_13 rfl rfl d e kk
theorem fg_X9_130 (X : vOk K cc RX9 nL) (hi : i < n) (d : decode cc pc = .ok (.getfield 130, 3)) (e : pc + 3 = pc') (kk : V K nL (wM (kY K) n ad M) n1 n2 pc' lv (.ref (ad (tb i + 13)) :: st)) : V K nL (wM (kY K) n ad M) n1 n2 pc lv (.ref (ad (tb i)) :: st) := p_get X inX8 (mT_0 hi) (hT_0 _ _) rfl 13 (by decide) w_fl_X9_130 rfl rfl d e kk
theorem fg_X9_143 (X : vOk K cc RX9 nL) {v : Int32} (hv : M.1 (0) 3 = v) (d : decode cc pc = .ok (.getfield 143, 3)) (e : pc + 3 = pc') (kk : V K nL (wM (kY K) n ad M) n1 n2 pc' lv (.int v :: st)) : V K nL (wM (kY K) n ad M) n1 n2 pc lv (.ref (ad (0)) :: st) := p_get X inX9 mM_0 (hM_0 _ _) rfl 3 (by decide) w_fl_X9_143 rfl (v := .int v) (by rw [← hv]; rfl) d e kk
theorem fp_X9_143 (X : vOk K cc RX9 nL) {v : Int32} (d : decode cc pc = .ok (.putfield 143, 3)) (e : pc + 3 = pc') (kk : V K nL (wM (kY K) n ad (mI M (0) 3 v)) n1 n2 pc' lv st) : V K nL (wM (kY K) n ad M) n1 n2 pc lv (.int v :: .ref (ad (0)) :: st) := p_put X inX9 tyX9 tyX9_ok nmX9 mM_0 (F := FM ad) hM_0 rfl 3 (by decide) w_fl_X9_143 rfl rfl (by decide +kernel) (fun _ => rfl) (fun _ => Nat.le_of_ble_eq_true rfl) d e kk
theorem fg_X9_149 (X : vOk K cc RX9 nL) (hi : i < n) {v : Int32} (hv : M.1 (tb i) 5 = v) (d : decode cc pc = .ok (.getfield 149, 3)) (e : pc + 3 = pc') (kk : V K nL (wM (kY K) n ad M) n1 n2 pc' lv (.int v :: st)) : V K nL (wM (kY K) n ad M) n1 n2 pc lv (.ref (ad (tb i)) :: st) := p_get X inX8 (mT_0 hi) (hT_0 _ _) rfl 5 (by decide) w_fl_X9_149 rfl (v := .int v) (by rw [← hv]; rfl) d e kk
theorem fp_X9_149 (X : vOk K cc RX9 nL) (hi : i < n) {v : Int32} (d : decode cc pc = .ok (.putfield 149, 3)) (e : pc + 3 = pc') (kk : V K nL (wM (kY K) n ad (mI M (tb i) 5 v)) n1 n2 pc' lv st) : V K nL (wM (kY K) n ad M) n1 n2 pc lv (.int v :: .ref (ad (tb i)) :: st) := p_put X inX8 tyX8 tyX8_ok nmX8 (mT_0 hi) (F := FT ad (tb i)) hT_0 rfl 5 (by decide) w_fl_X9_149 rfl rfl (by decide +kernel) (fun _ => rfl) (fun _ => Nat.le_of_ble_eq_true rfl) d e kk
theorem fg_X9_152 (X : vOk K cc RX9 nL) (hi : i < n) (d : decode cc pc = .ok (.getfield 152, 3)) (e : pc + 3 = pc') (kk : V K nL (wM (kY K) n ad M) n1 n2 pc' lv (.ref (ad (tb i + 15)) :: st)) : V K nL (wM (kY K) n ad M) n1 n2 pc lv (.ref (ad (tb i)) :: st) := p_get X inX8 (mT_0 hi) (hT_0 _ _) rfl 15 (by decide) w_fl_X9_152 rfl rfl d e kk
theorem fg_X9_155 (X : vOk K cc RX9 nL) (hi : i < n) {v : Int32} (hv : M.1 (tb i) 7 = v) (d : decode cc pc = .ok (.getfield 155, 3)) (e : pc + 3 = pc') (kk : V K nL (wM (kY K) n ad M) n1 n2 pc' lv (.int v :: st)) : V K nL (wM (kY K) n ad M) n1 n2 pc lv (.ref (ad (tb i)) :: st) := p_get X inX8 (mT_0 hi) (hT_0 _ _) rfl 7 (by decide) w_fl_X9_155 rfl (v := .int v) (by rw [← hv]; rfl) d e kk
theorem fp_X9_155 (X : vOk K cc RX9 nL) (hi : i < n) {v : Int32} (d : decode cc pc = .ok (.putfield 155, 3)) (e : pc + 3 = pc') (kk : V K nL (wM (kY K) n ad (mI M (tb i) 7 v)) n1 n2 pc' lv st) : V K nL (wM (kY K) n ad M) n1 n2 pc lv (.int v :: .ref (ad (tb i)) :: st) := p_put X inX8 tyX8 tyX8_ok nmX8 (mT_0 hi) (F := FT ad (tb i)) hT_0 rfl 7 (by decide) w_fl_X9_155 rfl rfl (by decide +kernel) (fun _ => rfl) (fun _ => Nat.le_of_ble_eq_true rfl) d e kk
theorem fg_X9_158 (X : vOk K cc RX9 nL) {v : Int32} (hv : M.1 (0) 5 = v) (d : decode cc pc = .ok (.getfield 158, 3)) (e : pc + 3 = pc') (kk : V K nL (wM (kY K) n ad M) n1 n2 pc' lv (.int v :: st)) : V K nL (wM (kY K) n ad M) n1 n2 pc lv (.ref (ad (0)) :: st) := p_get X inX9 mM_0 (hM_0 _ _) rfl 5 (by decide) w_fl_X9_158 rfl (v := .int v) (by rw [← hv]; rfl) d e kk
theorem fp_X9_158 (X : vOk K cc RX9 nL) {v : Int32} (d : decode cc pc = .ok (.putfield 158, 3)) (e : pc + 3 = pc') (kk : V K nL (wM (kY K) n ad (mI M (0) 5 v)) n1 n2 pc' lv st) : V K nL (wM (kY K) n ad M) n1 n2 pc lv (.int v :: .ref (ad (0)) :: st) := p_put X inX9 tyX9 tyX9_ok nmX9 mM_0 (F := FM ad) hM_0 rfl 5 (by decide) w_fl_X9_158 rfl rfl (by decide +kernel) (fun _ => rfl) (fun _ => Nat.le_of_ble_eq_true rfl) d e kk
theorem fg_X9_161 (X : vOk K cc RX9 nL) {v : Int32} (hv : M.1 (0) 4 = v) (d : decode cc pc = .ok (.getfield 161, 3)) (e : pc + 3 = pc') (kk : V K nL (wM (kY K) n ad M) n1 n2 pc' lv (.int v :: st)) : V K nL (wM (kY K) n ad M) n1 n2 pc lv (.ref (ad (0)) :: st) := p_get X inX9 mM_0 (hM_0 _ _) rfl 4 (by decide) w_fl_X9_161 rfl (v := .int v) (by rw [← hv]; rfl) d e kk
theorem fp_X9_161 (X : vOk K cc RX9 nL) {v : Int32} (d : decode cc pc = .ok (.putfield 161, 3)) (e : pc + 3 = pc') (kk : V K nL (wM (kY K) n ad (mI M (0) 4 v)) n1 n2 pc' lv st) : V K nL (wM (kY K) n ad M) n1 n2 pc lv (.int v :: .ref (ad (0)) :: st) := p_put X inX9 tyX9 tyX9_ok nmX9 mM_0 (F := FM ad) hM_0 rfl 4 (by decide) w_fl_X9_161 rfl rfl (by decide +kernel) (fun _ => rfl) (fun _ => Nat.le_of_ble_eq_true rfl) d e kk
theorem fg_X9_17 (X : vOk K cc RX9 nL) (d : decode cc pc = .ok (.getfield 17, 3)) (e : pc + 3 = pc') (kk : V K nL (wM (kY K) n ad M) n1 n2 pc' lv (.ref (ad (10)) :: st)) : V K nL (wM (kY K) n ad M) n1 n2 pc lv (.ref (ad (0)) :: st) := p_get X inX9 mM_0 (hM_0 _ _) rfl 10 (by decide) w_fl_X9_17 rfl rfl d e kk
theorem fg_X9_172 (X : vOk K cc RX9 nL) (hi : i < n) {v : Int32} (hv : M.1 (tb i) 6 = v) (d : decode cc pc = .ok (.getfield 172, 3)) (e : pc + 3 = pc') (kk : V K nL (wM (kY K) n ad M) n1 n2 pc' lv (.int v :: st)) : V K nL (wM (kY K) n ad M) n1 n2 pc lv (.ref (ad (tb i)) :: st) := p_get X inX8 (mT_0 hi) (hT_0 _ _) rfl 6 (by decide) w_fl_X9_172 rfl (v := .int v) (by rw [← hv]; rfl) d e kk
theorem fp_X9_172 (X : vOk K cc RX9 nL) (hi : i < n) {v : Int32} (d : decode cc pc = .ok (.putfield 172, 3)) (e : pc + 3 = pc') (kk : V K nL (wM (kY K) n ad (mI M (tb i) 6 v)) n1 n2 pc' lv st) : V K nL (wM (kY K) n ad M) n1 n2 pc lv (.int v :: .ref (ad (tb i)) :: st) := p_put X inX8 tyX8 tyX8_ok nmX8 (mT_0 hi) (F := FT ad (tb i)) hT_0 rfl 6 (by decide) w_fl_X9_172 rfl rfl (by decide +kernel) (fun _ => rfl) (fun _ => Nat.le_of_ble_eq_true rfl) d e kk
theorem fg_X9_175 (X : vOk K cc RX9 nL) (hi : i < n) (d : decode cc pc = .ok (.getfield 175, 3)) (e : pc + 3 = pc') (kk : V K nL (wM (kY K) n ad M) n1 n2 pc' lv (.ref (ad (tb i + 16)) :: st)) : V K nL (wM (kY K) n ad M) n1 n2 pc lv (.ref (ad (tb i)) :: st) := p_get X inX8 (mT_0 hi) (hT_0 _ _) rfl 16 (by decide) w_fl_X9_175 rfl rfl d e kk
theorem fg_X9_178 (X : vOk K cc RX9 nL) (hi : i < n) (d : decode cc pc = .ok (.getfield 178, 3)) (e : pc + 3 = pc') (kk : V K nL (wM (kY K) n ad M) n1 n2 pc' lv (.ref (ad (tb i + 17)) :: st)) : V K nL (wM (kY K) n ad M) n1 n2 pc lv (.ref (ad (tb i)) :: st) := p_get X inX8 (mT_0 hi) (hT_0 _ _) rfl 17 (by decide) w_fl_X9_178 rfl rfl d e kk
theorem fg_X9_184 (X : vOk K cc RX9 nL) (hi : i < n) (d : decode cc pc = .ok (.getfield 184, 3)) (e : pc + 3 = pc') (kk : V K nL (wM (kY K) n ad M) n1 n2 pc' lv (.ref (ad (tb i + 11)) :: st)) : V K nL (wM (kY K) n ad M) n1 n2 pc lv (.ref (ad (tb i)) :: st) := p_get X inX8 (mT_0 hi) (hT_0 _ _) rfl 11 (by decide) w_fl_X9_184 rfl rfl d e kk
theorem fg_X9_20 (X : vOk K cc RX9 nL) (d : decode cc pc = .ok (.getfield 20, 3)) (e : pc + 3 = pc') (kk : V K nL (wM (kY K) n ad M) n1 n2 pc' lv (.ref (ad (11)) :: st)) : V K nL (wM (kY K) n ad M) n1 n2 pc lv (.ref (ad (0)) :: st) := p_get X inX9 mM_0 (hM_0 _ _) rfl 11 (by decide) w_fl_X9_20 rfl rfl d e kk
theorem fg_X9_208 (X : vOk K cc RX9 nL) (hi : i < n) {v : Int32} (hv : M.1 (tb i) 0 = v) (d : decode cc pc = .ok (.getfield 208, 3)) (e : pc + 3 = pc') (kk : V K nL (wM (kY K) n ad M) n1 n2 pc' lv (.int v :: st)) : V K nL (wM (kY K) n ad M) n1 n2 pc lv (.ref (ad (tb i)) :: st) := p_get X inX8 (mT_0 hi) (hT_0 _ _) rfl 0 (by decide) w_fl_X9_208 rfl (v := .int v) (by rw [← hv]; rfl) d e kk
theorem fp_X9_208 (X : vOk K cc RX9 nL) (hi : i < n) {v : Int32} (d : decode cc pc = .ok (.putfield 208, 3)) (e : pc + 3 = pc') (kk : V K nL (wM (kY K) n ad (mI M (tb i) 0 v)) n1 n2 pc' lv st) : V K nL (wM (kY K) n ad M) n1 n2 pc lv (.int v :: .ref (ad (tb i)) :: st) := p_put X inX8 tyX8 tyX8_ok nmX8 (mT_0 hi) (F := FT ad (tb i)) hT_0 rfl 0 (by decide) w_fl_X9_208 rfl rfl (by decide +kernel) (fun _ => rfl) (fun _ => Nat.le_of_ble_eq_true rfl) d e kk
theorem fg_X9_216 (X : vOk K cc RX9 nL) {v : Int32} (hv : M.1 (0) 8 = v) (d : decode cc pc = .ok (.getfield 216, 3)) (e : pc + 3 = pc') (kk : V K nL (wM (kY K) n ad M) n1 n2 pc' lv (.int v :: st)) : V K nL (wM (kY K) n ad M) n1 n2 pc lv (.ref (ad (0)) :: st) := p_get X inX9 mM_0 (hM_0 _ _) rfl 8 (by decide) w_fl_X9_216 rfl (v := .int v) (by rw [← hv]; rfl) d e kk
theorem fp_X9_216 (X : vOk K cc RX9 nL) {v : Int32} (d : decode cc pc = .ok (.putfield 216, 3)) (e : pc + 3 = pc') (kk : V K nL (wM (kY K) n ad (mI M (0) 8 v)) n1 n2 pc' lv st) : V K nL (wM (kY K) n ad M) n1 n2 pc lv (.int v :: .ref (ad (0)) :: st) := p_put X inX9 tyX9 tyX9_ok nmX9 mM_0 (F := FM ad) hM_0 rfl 8 (by decide) w_fl_X9_216 rfl rfl (by decide +kernel) (fun _ => rfl) (fun _ => Nat.le_of_ble_eq_true rfl) d e kk
theorem fg_X9_226 (X : vOk K cc RX9 nL) {v : Int32} (hv : M.1 (0) 6 = v) (d : decode cc pc = .ok (.getfield 226, 3)) (e : pc + 3 = pc') (kk : V K nL (wM (kY K) n ad M) n1 n2 pc' lv (.int v :: st)) : V K nL (wM (kY K) n ad M) n1 n2 pc lv (.ref (ad (0)) :: st) := p_get X inX9 mM_0 (hM_0 _ _) rfl 6 (by decide) w_fl_X9_226 rfl (v := .int v) (by rw [← hv]; rfl) d e kk
theorem fp_X9_226 (X : vOk K cc RX9 nL) {v : Int32} (d : decode cc pc = .ok (.putfield 226, 3)) (e : pc + 3 = pc') (kk : V K nL (wM (kY K) n ad (mI M (0) 6 v)) n1 n2 pc' lv st) : V K nL (wM (kY K) n ad M) n1 n2 pc lv (.int v :: .ref (ad (0)) :: st) := p_put X inX9 tyX9 tyX9_ok nmX9 mM_0 (F := FM ad) hM_0 rfl 6 (by decide) w_fl_X9_226 rfl rfl (by decide +kernel) (fun _ => rfl) (fun _ => Nat.le_of_ble_eq_true rfl) d e kk
theorem fg_X9_23 (X : vOk K cc RX9 nL) (d : decode cc pc = .ok (.getfield 23, 3)) (e : pc + 3 = pc') (kk : V K nL (wM (kY K) n ad M) n1 n2 pc' lv (.ref (ad (12)) :: st)) : V K nL (wM (kY K) n ad M) n1 n2 pc lv (.ref (ad (0)) :: st) := p_get X inX9 mM_0 (hM_0 _ _) rfl 12 (by decide) w_fl_X9_23 rfl rfl d e kk
theorem fg_X9_233 (X : vOk K cc RX9 nL) (hi : i < n) (d : decode cc pc = .ok (.getfield 233, 3)) (e : pc + 3 = pc') (kk : V K nL (wM (kY K) n ad M) n1 n2 pc' lv (.ref (ad (tb i + 9)) :: st)) : V K nL (wM (kY K) n ad M) n1 n2 pc lv (.ref (ad (tb i)) :: st) := p_get X inX8 (mT_0 hi) (hT_0 _ _) rfl 9 (by decide) w_fl_X9_233 rfl rfl d e kk
theorem fg_X9_254 (X : vOk K cc RX9 nL) (hi : i < n) {v : Int32} (hv : M.1 (tb i) 1 = v) (d : decode cc pc = .ok (.getfield 254, 3)) (e : pc + 3 = pc') (kk : V K nL (wM (kY K) n ad M) n1 n2 pc' lv (.int v :: st)) : V K nL (wM (kY K) n ad M) n1 n2 pc lv (.ref (ad (tb i)) :: st) := p_get X inX8 (mT_0 hi) (hT_0 _ _) rfl 1 (by decide) w_fl_X9_254 rfl (v := .int v) (by rw [← hv]; rfl) d e kk
theorem fp_X9_254 (X : vOk K cc RX9 nL) (hi : i < n) {v : Int32} (d : decode cc pc = .ok (.putfield 254, 3)) (e : pc + 3 = pc') (kk : V K nL (wM (kY K) n ad (mI M (tb i) 1 v)) n1 n2 pc' lv st) : V K nL (wM (kY K) n ad M) n1 n2 pc lv (.int v :: .ref (ad (tb i)) :: st) := p_put X inX8 tyX8 tyX8_ok nmX8 (mT_0 hi) (F := FT ad (tb i)) hT_0 rfl 1 (by decide) w_fl_X9_254 rfl rfl (by decide +kernel) (fun _ => rfl) (fun _ => Nat.le_of_ble_eq_true rfl) d e kk
theorem fg_X9_28 (X : vOk K cc RX9 nL) (d : decode cc pc = .ok (.getfield 28, 3)) (e : pc + 3 = pc') (kk : V K nL (wM (kY K) n ad M) n1 n2 pc' lv (.ref (ad (13)) :: st)) : V K nL (wM (kY K) n ad M) n1 n2 pc lv (.ref (ad (0)) :: st) := p_get X inX9 mM_0 (hM_0 _ _) rfl 13 (by decide) w_fl_X9_28 rfl rfl d e kk
theorem fg_X9_32 (X : vOk K cc RX9 nL) (d : decode cc pc = .ok (.getfield 32, 3)) (e : pc + 3 = pc') (kk : V K nL (wM (kY K) n ad M) n1 n2 pc' lv (.ref (ad (14)) :: st)) : V K nL (wM (kY K) n ad M) n1 n2 pc lv (.ref (ad (0)) :: st) := p_get X inX9 mM_0 (hM_0 _ _) rfl 14 (by decide) w_fl_X9_32 rfl rfl d e kk
theorem fg_X9_36 (X : vOk K cc RX9 nL) (d : decode cc pc = .ok (.getfield 36, 3)) (e : pc + 3 = pc') (kk : V K nL (wM (kY K) n ad M) n1 n2 pc' lv (.ref (ad (15)) :: st)) : V K nL (wM (kY K) n ad M) n1 n2 pc lv (.ref (ad (0)) :: st) := p_get X inX9 mM_0 (hM_0 _ _) rfl 15 (by decide) w_fl_X9_36 rfl rfl d e kk
theorem fg_X9_39 (X : vOk K cc RX9 nL) (d : decode cc pc = .ok (.getfield 39, 3)) (e : pc + 3 = pc') (kk : V K nL (wM (kY K) n ad M) n1 n2 pc' lv (.ref (ad (16)) :: st)) : V K nL (wM (kY K) n ad M) n1 n2 pc lv (.ref (ad (0)) :: st) := p_get X inX9 mM_0 (hM_0 _ _) rfl 16 (by decide) w_fl_X9_39 rfl rfl d e kk
theorem fg_X9_42 (X : vOk K cc RX9 nL) (d : decode cc pc = .ok (.getfield 42, 3)) (e : pc + 3 = pc') (kk : V K nL (wM (kY K) n ad M) n1 n2 pc' lv (.ref (ad (17)) :: st)) : V K nL (wM (kY K) n ad M) n1 n2 pc lv (.ref (ad (0)) :: st) := p_get X inX9 mM_0 (hM_0 _ _) rfl 17 (by decide) w_fl_X9_42 rfl rfl d e kk
theorem fg_X9_46 (X : vOk K cc RX9 nL) (d : decode cc pc = .ok (.getfield 46, 3)) (e : pc + 3 = pc') (kk : V K nL (wM (kY K) n ad M) n1 n2 pc' lv (.ref (ad (18)) :: st)) : V K nL (wM (kY K) n ad M) n1 n2 pc lv (.ref (ad (0)) :: st) := p_get X inX9 mM_0 (hM_0 _ _) rfl 18 (by decide) w_fl_X9_46 rfl rfl d e kk
theorem fg_X9_49 (X : vOk K cc RX9 nL) (d : decode cc pc = .ok (.getfield 49, 3)) (e : pc + 3 = pc') (kk : V K nL (wM (kY K) n ad M) n1 n2 pc' lv (.ref (ad (19)) :: st)) : V K nL (wM (kY K) n ad M) n1 n2 pc lv (.ref (ad (0)) :: st) := p_get X inX9 mM_0 (hM_0 _ _) rfl 19 (by decide) w_fl_X9_49 rfl rfl d e kk
theorem fg_X9_52 (X : vOk K cc RX9 nL) (d : decode cc pc = .ok (.getfield 52, 3)) (e : pc + 3 = pc') (kk : V K nL (wM (kY K) n ad M) n1 n2 pc' lv (.ref (ad (20)) :: st)) : V K nL (wM (kY K) n ad M) n1 n2 pc lv (.ref (ad (0)) :: st) := p_get X inX9 mM_0 (hM_0 _ _) rfl 20 (by decide) w_fl_X9_52 rfl rfl d e kk
theorem fg_X9_55 (X : vOk K cc RX9 nL) (d : decode cc pc = .ok (.getfield 55, 3)) (e : pc + 3 = pc') (kk : V K nL (wM (kY K) n ad M) n1 n2 pc' lv (.ref (ad (21)) :: st)) : V K nL (wM (kY K) n ad M) n1 n2 pc lv (.ref (ad (0)) :: st) := p_get X inX9 mM_0 (hM_0 _ _) rfl 21 (by decide) w_fl_X9_55 rfl rfl d e kk
theorem fg_X9_59 (X : vOk K cc RX9 nL) {v : Int32} (hv : M.1 (0) 0 = v) (d : decode cc pc = .ok (.getfield 59, 3)) (e : pc + 3 = pc') (kk : V K nL (wM (kY K) n ad M) n1 n2 pc' lv (.int v :: st)) : V K nL (wM (kY K) n ad M) n1 n2 pc lv (.ref (ad (0)) :: st) := p_get X inX9 mM_0 (hM_0 _ _) rfl 0 (by decide) w_fl_X9_59 rfl (v := .int v) (by rw [← hv]; rfl) d e kk
theorem fp_X9_59 (X : vOk K cc RX9 nL) {v : Int32} (d : decode cc pc = .ok (.putfield 59, 3)) (e : pc + 3 = pc') (kk : V K nL (wM (kY K) n ad (mI M (0) 0 v)) n1 n2 pc' lv st) : V K nL (wM (kY K) n ad M) n1 n2 pc lv (.int v :: .ref (ad (0)) :: st) := p_put X inX9 tyX9 tyX9_ok nmX9 mM_0 (F := FM ad) hM_0 rfl 0 (by decide) w_fl_X9_59 rfl rfl (by decide +kernel) (fun _ => rfl) (fun _ => Nat.le_of_ble_eq_true rfl) d e kk
theorem fg_X9_66 (X : vOk K cc RX9 nL) {v : Int32} (hv : M.1 (0) 7 = v) (d : decode cc pc = .ok (.getfield 66, 3)) (e : pc + 3 = pc') (kk : V K nL (wM (kY K) n ad M) n1 n2 pc' lv (.int v :: st)) : V K nL (wM (kY K) n ad M) n1 n2 pc lv (.ref (ad (0)) :: st) := p_get X inX9 mM_0 (hM_0 _ _) rfl 7 (by decide) w_fl_X9_66 rfl (v := .int v) (by rw [← hv]; rfl) d e kk
theorem fp_X9_66 (X : vOk K cc RX9 nL) {v : Int32} (d : decode cc pc = .ok (.putfield 66, 3)) (e : pc + 3 = pc') (kk : V K nL (wM (kY K) n ad (mI M (0) 7 v)) n1 n2 pc' lv st) : V K nL (wM (kY K) n ad M) n1 n2 pc lv (.int v :: .ref (ad (0)) :: st) := p_put X inX9 tyX9 tyX9_ok nmX9 mM_0 (F := FM ad) hM_0 rfl 7 (by decide) w_fl_X9_66 rfl rfl (by decide +kernel) (fun _ => rfl) (fun _ => Nat.le_of_ble_eq_true rfl) d e kk
theorem fg_X9_69 (X : vOk K cc RX9 nL) (hi : i < n) {v : Int32} (hv : M.1 (tb i) 2 = v) (d : decode cc pc = .ok (.getfield 69, 3)) (e : pc + 3 = pc') (kk : V K nL (wM (kY K) n ad M) n1 n2 pc' lv (.int v :: st)) : V K nL (wM (kY K) n ad M) n1 n2 pc lv (.ref (ad (tb i)) :: st) := p_get X inX8 (mT_0 hi) (hT_0 _ _) rfl 2 (by decide) w_fl_X9_69 rfl (v := .int v) (by rw [← hv]; rfl) d e kk
theorem fp_X9_69 (X : vOk K cc RX9 nL) (hi : i < n) {v : Int32} (d : decode cc pc = .ok (.putfield 69, 3)) (e : pc + 3 = pc') (kk : V K nL (wM (kY K) n ad (mI M (tb i) 2 v)) n1 n2 pc' lv st) : V K nL (wM (kY K) n ad M) n1 n2 pc lv (.int v :: .ref (ad (tb i)) :: st) := p_put X inX8 tyX8 tyX8_ok nmX8 (mT_0 hi) (F := FT ad (tb i)) hT_0 rfl 2 (by decide) w_fl_X9_69 rfl rfl (by decide +kernel) (fun _ => rfl) (fun _ => Nat.le_of_ble_eq_true rfl) d e kk
theorem fg_X9_7 (X : vOk K cc RX9 nL) {v : Int32} (hv : M.1 (0) 2 = v) (d : decode cc pc = .ok (.getfield 7, 3)) (e : pc + 3 = pc') (kk : V K nL (wM (kY K) n ad M) n1 n2 pc' lv (.int v :: st)) : V K nL (wM (kY K) n ad M) n1 n2 pc lv (.ref (ad (0)) :: st) := p_get X inX9 mM_0 (hM_0 _ _) rfl 2 (by decide) w_fl_X9_7 rfl (v := .int v) (by rw [← hv]; rfl) d e kk
theorem fp_X9_7 (X : vOk K cc RX9 nL) {v : Int32} (d : decode cc pc = .ok (.putfield 7, 3)) (e : pc + 3 = pc') (kk : V K nL (wM (kY K) n ad (mI M (0) 2 v)) n1 n2 pc' lv st) : V K nL (wM (kY K) n ad M) n1 n2 pc lv (.int v :: .ref (ad (0)) :: st) := p_put X inX9 tyX9 tyX9_ok nmX9 mM_0 (F := FM ad) hM_0 rfl 2 (by decide) w_fl_X9_7 rfl rfl (by decide +kernel) (fun _ => rfl) (fun _ => Nat.le_of_ble_eq_true rfl) d e kk
theorem fg_X9_72 (X : vOk K cc RX9 nL) {v : Int32} (hv : M.1 (0) 1 = v) (d : decode cc pc = .ok (.getfield 72, 3)) (e : pc + 3 = pc') (kk : V K nL (wM (kY K) n ad M) n1 n2 pc' lv (.int v :: st)) : V K nL (wM (kY K) n ad M) n1 n2 pc lv (.ref (ad (0)) :: st) := p_get X inX9 mM_0 (hM_0 _ _) rfl 1 (by decide) w_fl_X9_72 rfl (v := .int v) (by rw [← hv]; rfl) d e kk
theorem fp_X9_72 (X : vOk K cc RX9 nL) {v : Int32} (d : decode cc pc = .ok (.putfield 72, 3)) (e : pc + 3 = pc') (kk : V K nL (wM (kY K) n ad (mI M (0) 1 v)) n1 n2 pc' lv st) : V K nL (wM (kY K) n ad M) n1 n2 pc lv (.int v :: .ref (ad (0)) :: st) := p_put X inX9 tyX9 tyX9_ok nmX9 mM_0 (F := FM ad) hM_0 rfl 1 (by decide) w_fl_X9_72 rfl rfl (by decide +kernel) (fun _ => rfl) (fun _ => Nat.le_of_ble_eq_true rfl) d e kk
theorem ag_M9 {own : String} (X : vOk K cc own nL) {ix : Int32} (j : Nat) (hj : ix = nI j) (hn : j < 1000) {v : Int32} (hv : M.1 (9) j = v) (d : decode cc pc = .ok (.iaload, 1)) (e : pc + 1 = pc') (kk : V K nL (wM (kY K) n ad M) n1 n2 pc' lv (.int v :: st)) : V K nL (wM (kY K) n ad M) n1 n2 pc lv (.int ix :: .ref (ad (9)) :: st) := p_iald X mM_9 hM_9 j hj hn (by decide) hv d e kk
theorem as_M9 {own : String} (X : vOk K cc own nL) {ix : Int32} {x : Int32} (j : Nat) (hj : ix = nI j) (hn : j < 1000) (d : decode cc pc = .ok (.iastore, 1)) (e : pc + 1 = pc') (kk : V K nL (wM (kY K) n ad (mI M (9) j x)) n1 n2 pc' lv st) : V K nL (wM (kY K) n ad M) n1 n2 pc lv (.int x :: .int ix :: .ref (ad (9)) :: st) := p_iast X mM_9 hM_9 j hj hn (by decide) d e kk
theorem ag_M10 {own : String} (X : vOk K cc own nL) {ix : Int32} (j : Nat) (hj : ix = nI j) (hn : j < 1000) {v : Int32} (hv : M.1 (10) j = v) (d : decode cc pc = .ok (.iaload, 1)) (e : pc + 1 = pc') (kk : V K nL (wM (kY K) n ad M) n1 n2 pc' lv (.int v :: st)) : V K nL (wM (kY K) n ad M) n1 n2 pc lv (.int ix :: .ref (ad (10)) :: st) := p_iald X mM_10 hM_10 j hj hn (by decide) hv d e kk
theorem as_M10 {own : String} (X : vOk K cc own nL) {ix : Int32} {x : Int32} (j : Nat) (hj : ix = nI j) (hn : j < 1000) (d : decode cc pc = .ok (.iastore, 1)) (e : pc + 1 = pc') (kk : V K nL (wM (kY K) n ad (mI M (10) j x)) n1 n2 pc' lv st) : V K nL (wM (kY K) n ad M) n1 n2 pc lv (.int x :: .int ix :: .ref (ad (10)) :: st) := p_iast X mM_10 hM_10 j hj hn (by decide) d e kk
theorem ag_M11 {own : String} (X : vOk K cc own nL) {ix : Int32} (j : Nat) (hj : ix = nI j) (hn : j < 1000) {v : Int32} (hv : M.1 (11) j = v) (d : decode cc pc = .ok (.iaload, 1)) (e : pc + 1 = pc') (kk : V K nL (wM (kY K) n ad M) n1 n2 pc' lv (.int v :: st)) : V K nL (wM (kY K) n ad M) n1 n2 pc lv (.int ix :: .ref (ad (11)) :: st) := p_iald X mM_11 hM_11 j hj hn (by decide) hv d e kk
theorem as_M11 {own : String} (X : vOk K cc own nL) {ix : Int32} {x : Int32} (j : Nat) (hj : ix = nI j) (hn : j < 1000) (d : decode cc pc = .ok (.iastore, 1)) (e : pc + 1 = pc') (kk : V K nL (wM (kY K) n ad (mI M (11) j x)) n1 n2 pc' lv st) : V K nL (wM (kY K) n ad M) n1 n2 pc lv (.int x :: .int ix :: .ref (ad (11)) :: st) := p_iast X mM_11 hM_11 j hj hn (by decide) d e kk
theorem ag_M12 {own : String} (X : vOk K cc own nL) {ix : Int32} (j : Nat) (hj : ix = nI j) (hn : j < 1000) {v : Int32} (hv : M.1 (12) j = v) (d : decode cc pc = .ok (.iaload, 1)) (e : pc + 1 = pc') (kk : V K nL (wM (kY K) n ad M) n1 n2 pc' lv (.int v :: st)) : V K nL (wM (kY K) n ad M) n1 n2 pc lv (.int ix :: .ref (ad (12)) :: st) := p_iald X mM_12 hM_12 j hj hn (by decide) hv d e kk
theorem as_M12 {own : String} (X : vOk K cc own nL) {ix : Int32} {x : Int32} (j : Nat) (hj : ix = nI j) (hn : j < 1000) (d : decode cc pc = .ok (.iastore, 1)) (e : pc + 1 = pc') (kk : V K nL (wM (kY K) n ad (mI M (12) j x)) n1 n2 pc' lv st) : V K nL (wM (kY K) n ad M) n1 n2 pc lv (.int x :: .int ix :: .ref (ad (12)) :: st) := p_iast X mM_12 hM_12 j hj hn (by decide) d e kk
theorem ag_M14 {own : String} (X : vOk K cc own nL) {ix : Int32} (j : Nat) (hj : ix = nI j) (hn : j < 8) {v : Int64} (hv : M.2 (14) j = v) (d : decode cc pc = .ok (.laload, 1)) (e : pc + 1 = pc') (kk : V K nL (wM (kY K) n ad M) n1 n2 pc' lv (.long v :: st)) : V K nL (wM (kY K) n ad M) n1 n2 pc lv (.int ix :: .ref (ad (14)) :: st) := p_lald X mM_14 hM_14 j hj hn (by decide) hv d e kk
theorem as_M14 {own : String} (X : vOk K cc own nL) {ix : Int32} {x : Int64} (j : Nat) (hj : ix = nI j) (hn : j < 8) (d : decode cc pc = .ok (.lastore, 1)) (e : pc + 1 = pc') (kk : V K nL (wM (kY K) n ad (mL M (14) j x)) n1 n2 pc' lv st) : V K nL (wM (kY K) n ad M) n1 n2 pc lv (.long x :: .int ix :: .ref (ad (14)) :: st) := p_last X mM_14 hM_14 j hj hn (by decide) d e kk
theorem ag_M15 {own : String} (X : vOk K cc own nL) {ix : Int32} (j : Nat) (hj : ix = nI j) (hn : j < 200) {v : Int64} (hv : M.2 (15) j = v) (d : decode cc pc = .ok (.laload, 1)) (e : pc + 1 = pc') (kk : V K nL (wM (kY K) n ad M) n1 n2 pc' lv (.long v :: st)) : V K nL (wM (kY K) n ad M) n1 n2 pc lv (.int ix :: .ref (ad (15)) :: st) := p_lald X mM_15 hM_15 j hj hn (by decide) hv d e kk
theorem as_M15 {own : String} (X : vOk K cc own nL) {ix : Int32} {x : Int64} (j : Nat) (hj : ix = nI j) (hn : j < 200) (d : decode cc pc = .ok (.lastore, 1)) (e : pc + 1 = pc') (kk : V K nL (wM (kY K) n ad (mL M (15) j x)) n1 n2 pc' lv st) : V K nL (wM (kY K) n ad M) n1 n2 pc lv (.long x :: .int ix :: .ref (ad (15)) :: st) := p_last X mM_15 hM_15 j hj hn (by decide) d e kk
theorem ag_M16 {own : String} (X : vOk K cc own nL) {ix : Int32} (j : Nat) (hj : ix = nI j) (hn : j < 200) {v : Int64} (hv : M.2 (16) j = v) (d : decode cc pc = .ok (.laload, 1)) (e : pc + 1 = pc') (kk : V K nL (wM (kY K) n ad M) n1 n2 pc' lv (.long v :: st)) : V K nL (wM (kY K) n ad M) n1 n2 pc lv (.int ix :: .ref (ad (16)) :: st) := p_lald X mM_16 hM_16 j hj hn (by decide) hv d e kk
theorem as_M16 {own : String} (X : vOk K cc own nL) {ix : Int32} {x : Int64} (j : Nat) (hj : ix = nI j) (hn : j < 200) (d : decode cc pc = .ok (.lastore, 1)) (e : pc + 1 = pc') (kk : V K nL (wM (kY K) n ad (mL M (16) j x)) n1 n2 pc' lv st) : V K nL (wM (kY K) n ad M) n1 n2 pc lv (.long x :: .int ix :: .ref (ad (16)) :: st) := p_last X mM_16 hM_16 j hj hn (by decide) d e kk
theorem ag_M17 {own : String} (X : vOk K cc own nL) {ix : Int32} (j : Nat) (hj : ix = nI j) (hn : j < 200) {v : Int32} (hv : M.1 (17) j = v) (d : decode cc pc = .ok (.baload, 1)) (e : pc + 1 = pc') (kk : V K nL (wM (kY K) n ad M) n1 n2 pc' lv (.int v :: st)) : V K nL (wM (kY K) n ad M) n1 n2 pc lv (.int ix :: .ref (ad (17)) :: st) := p_zald X mM_17 hM_17 j hj hn (by decide) hv d e kk
theorem as_M17 {own : String} (X : vOk K cc own nL) {ix : Int32} {x y : Int32} (hxy : vp_nar .boolean x = y) (j : Nat) (hj : ix = nI j) (hn : j < 200) (d : decode cc pc = .ok (.bastore, 1)) (e : pc + 1 = pc') (kk : V K nL (wM (kY K) n ad (mI M (17) j y)) n1 n2 pc' lv st) : V K nL (wM (kY K) n ad M) n1 n2 pc lv (.int x :: .int ix :: .ref (ad (17)) :: st) := p_zast X mM_17 hM_17 hxy j hj hn (by decide) d e kk
theorem ag_M18 {own : String} (X : vOk K cc own nL) {ix : Int32} (j : Nat) (hj : ix = nI j) (hn : j < 200) {v : Int32} (hv : M.1 (18) j = v) (d : decode cc pc = .ok (.baload, 1)) (e : pc + 1 = pc') (kk : V K nL (wM (kY K) n ad M) n1 n2 pc' lv (.int v :: st)) : V K nL (wM (kY K) n ad M) n1 n2 pc lv (.int ix :: .ref (ad (18)) :: st) := p_zald X mM_18 hM_18 j hj hn (by decide) hv d e kk
theorem as_M18 {own : String} (X : vOk K cc own nL) {ix : Int32} {x y : Int32} (hxy : vp_nar .boolean x = y) (j : Nat) (hj : ix = nI j) (hn : j < 200) (d : decode cc pc = .ok (.bastore, 1)) (e : pc + 1 = pc') (kk : V K nL (wM (kY K) n ad (mI M (18) j y)) n1 n2 pc' lv st) : V K nL (wM (kY K) n ad M) n1 n2 pc lv (.int x :: .int ix :: .ref (ad (18)) :: st) := p_zast X mM_18 hM_18 hxy j hj hn (by decide) d e kk
theorem ag_M19 {own : String} (X : vOk K cc own nL) {ix : Int32} (j : Nat) (hj : ix = nI j) (hn : j < 200) {v : Int32} (hv : M.1 (19) j = v) (d : decode cc pc = .ok (.iaload, 1)) (e : pc + 1 = pc') (kk : V K nL (wM (kY K) n ad M) n1 n2 pc' lv (.int v :: st)) : V K nL (wM (kY K) n ad M) n1 n2 pc lv (.int ix :: .ref (ad (19)) :: st) := p_iald X mM_19 hM_19 j hj hn (by decide) hv d e kk
theorem as_M19 {own : String} (X : vOk K cc own nL) {ix : Int32} {x : Int32} (j : Nat) (hj : ix = nI j) (hn : j < 200) (d : decode cc pc = .ok (.iastore, 1)) (e : pc + 1 = pc') (kk : V K nL (wM (kY K) n ad (mI M (19) j x)) n1 n2 pc' lv st) : V K nL (wM (kY K) n ad M) n1 n2 pc lv (.int x :: .int ix :: .ref (ad (19)) :: st) := p_iast X mM_19 hM_19 j hj hn (by decide) d e kk
theorem ag_M20 {own : String} (X : vOk K cc own nL) {ix : Int32} (j : Nat) (hj : ix = nI j) (hn : j < 200) {v : Int32} (hv : M.1 (20) j = v) (d : decode cc pc = .ok (.iaload, 1)) (e : pc + 1 = pc') (kk : V K nL (wM (kY K) n ad M) n1 n2 pc' lv (.int v :: st)) : V K nL (wM (kY K) n ad M) n1 n2 pc lv (.int ix :: .ref (ad (20)) :: st) := p_iald X mM_20 hM_20 j hj hn (by decide) hv d e kk
theorem as_M20 {own : String} (X : vOk K cc own nL) {ix : Int32} {x : Int32} (j : Nat) (hj : ix = nI j) (hn : j < 200) (d : decode cc pc = .ok (.iastore, 1)) (e : pc + 1 = pc') (kk : V K nL (wM (kY K) n ad (mI M (20) j x)) n1 n2 pc' lv st) : V K nL (wM (kY K) n ad M) n1 n2 pc lv (.int x :: .int ix :: .ref (ad (20)) :: st) := p_iast X mM_20 hM_20 j hj hn (by decide) d e kk
theorem ag_M21 {own : String} (X : vOk K cc own nL) {ix : Int32} (j : Nat) (hj : ix = nI j) (hn : j < 200) {v : Int32} (hv : M.1 (21) j = v) (d : decode cc pc = .ok (.iaload, 1)) (e : pc + 1 = pc') (kk : V K nL (wM (kY K) n ad M) n1 n2 pc' lv (.int v :: st)) : V K nL (wM (kY K) n ad M) n1 n2 pc lv (.int ix :: .ref (ad (21)) :: st) := p_iald X mM_21 hM_21 j hj hn (by decide) hv d e kk
theorem as_M21 {own : String} (X : vOk K cc own nL) {ix : Int32} {x : Int32} (j : Nat) (hj : ix = nI j) (hn : j < 200) (d : decode cc pc = .ok (.iastore, 1)) (e : pc + 1 = pc') (kk : V K nL (wM (kY K) n ad (mI M (21) j x)) n1 n2 pc' lv st) : V K nL (wM (kY K) n ad M) n1 n2 pc lv (.int x :: .int ix :: .ref (ad (21)) :: st) := p_iast X mM_21 hM_21 j hj hn (by decide) d e kk
theorem ag_T8 {own : String} (X : vOk K cc own nL) (hi : i < n) {ix : Int32} (j : Nat) (hj : ix = nI j) (hn : j < 16) {v : Int64} (hv : M.2 (tb i + 8) j = v) (d : decode cc pc = .ok (.laload, 1)) (e : pc + 1 = pc') (kk : V K nL (wM (kY K) n ad M) n1 n2 pc' lv (.long v :: st)) : V K nL (wM (kY K) n ad M) n1 n2 pc lv (.int ix :: .ref (ad (tb i + 8)) :: st) := p_lald X (mT_8 hi) hT_8 j hj hn (by decide) hv d e kk
theorem as_T8 {own : String} (X : vOk K cc own nL) (hi : i < n) {ix : Int32} {x : Int64} (j : Nat) (hj : ix = nI j) (hn : j < 16) (d : decode cc pc = .ok (.lastore, 1)) (e : pc + 1 = pc') (kk : V K nL (wM (kY K) n ad (mL M (tb i + 8) j x)) n1 n2 pc' lv st) : V K nL (wM (kY K) n ad M) n1 n2 pc lv (.long x :: .int ix :: .ref (ad (tb i + 8)) :: st) := p_last X (mT_8 hi) hT_8 j hj hn (by decide) d e kk
theorem ag_T9 {own : String} (X : vOk K cc own nL) (hi : i < n) {ix : Int32} (j : Nat) (hj : ix = nI j) (hn : j < 384) {v : Int64} (hv : M.2 (tb i + 9) j = v) (d : decode cc pc = .ok (.laload, 1)) (e : pc + 1 = pc') (kk : V K nL (wM (kY K) n ad M) n1 n2 pc' lv (.long v :: st)) : V K nL (wM (kY K) n ad M) n1 n2 pc lv (.int ix :: .ref (ad (tb i + 9)) :: st) := p_lald X (mT_9 hi) hT_9 j hj hn (by decide) hv d e kk
theorem as_T9 {own : String} (X : vOk K cc own nL) (hi : i < n) {ix : Int32} {x : Int64} (j : Nat) (hj : ix = nI j) (hn : j < 384) (d : decode cc pc = .ok (.lastore, 1)) (e : pc + 1 = pc') (kk : V K nL (wM (kY K) n ad (mL M (tb i + 9) j x)) n1 n2 pc' lv st) : V K nL (wM (kY K) n ad M) n1 n2 pc lv (.long x :: .int ix :: .ref (ad (tb i + 9)) :: st) := p_last X (mT_9 hi) hT_9 j hj hn (by decide) d e kk
theorem ag_T10 {own : String} (X : vOk K cc own nL) (hi : i < n) {ix : Int32} (j : Nat) (hj : ix = nI j) (hn : j < 40) {v : Int32} (hv : M.1 (tb i + 10) j = v) (d : decode cc pc = .ok (.iaload, 1)) (e : pc + 1 = pc') (kk : V K nL (wM (kY K) n ad M) n1 n2 pc' lv (.int v :: st)) : V K nL (wM (kY K) n ad M) n1 n2 pc lv (.int ix :: .ref (ad (tb i + 10)) :: st) := p_iald X (mT_10 hi) hT_10 j hj hn (by decide) hv d e kk
theorem as_T10 {own : String} (X : vOk K cc own nL) (hi : i < n) {ix : Int32} {x : Int32} (j : Nat) (hj : ix = nI j) (hn : j < 40) (d : decode cc pc = .ok (.iastore, 1)) (e : pc + 1 = pc') (kk : V K nL (wM (kY K) n ad (mI M (tb i + 10) j x)) n1 n2 pc' lv st) : V K nL (wM (kY K) n ad M) n1 n2 pc lv (.int x :: .int ix :: .ref (ad (tb i + 10)) :: st) := p_iast X (mT_10 hi) hT_10 j hj hn (by decide) d e kk
theorem ag_T11 {own : String} (X : vOk K cc own nL) (hi : i < n) {ix : Int32} (j : Nat) (hj : ix = nI j) (hn : j < 24) {v : Int32} (hv : M.1 (tb i + 11) j = v) (d : decode cc pc = .ok (.iaload, 1)) (e : pc + 1 = pc') (kk : V K nL (wM (kY K) n ad M) n1 n2 pc' lv (.int v :: st)) : V K nL (wM (kY K) n ad M) n1 n2 pc lv (.int ix :: .ref (ad (tb i + 11)) :: st) := p_iald X (mT_11 hi) hT_11 j hj hn (by decide) hv d e kk
theorem as_T11 {own : String} (X : vOk K cc own nL) (hi : i < n) {ix : Int32} {x : Int32} (j : Nat) (hj : ix = nI j) (hn : j < 24) (d : decode cc pc = .ok (.iastore, 1)) (e : pc + 1 = pc') (kk : V K nL (wM (kY K) n ad (mI M (tb i + 11) j x)) n1 n2 pc' lv st) : V K nL (wM (kY K) n ad M) n1 n2 pc lv (.int x :: .int ix :: .ref (ad (tb i + 11)) :: st) := p_iast X (mT_11 hi) hT_11 j hj hn (by decide) d e kk
theorem ag_T12 {own : String} (X : vOk K cc own nL) (hi : i < n) {ix : Int32} (j : Nat) (hj : ix = nI j) (hn : j < 24) {v : Int32} (hv : M.1 (tb i + 12) j = v) (d : decode cc pc = .ok (.iaload, 1)) (e : pc + 1 = pc') (kk : V K nL (wM (kY K) n ad M) n1 n2 pc' lv (.int v :: st)) : V K nL (wM (kY K) n ad M) n1 n2 pc lv (.int ix :: .ref (ad (tb i + 12)) :: st) := p_iald X (mT_12 hi) hT_12 j hj hn (by decide) hv d e kk
theorem as_T12 {own : String} (X : vOk K cc own nL) (hi : i < n) {ix : Int32} {x : Int32} (j : Nat) (hj : ix = nI j) (hn : j < 24) (d : decode cc pc = .ok (.iastore, 1)) (e : pc + 1 = pc') (kk : V K nL (wM (kY K) n ad (mI M (tb i + 12) j x)) n1 n2 pc' lv st) : V K nL (wM (kY K) n ad M) n1 n2 pc lv (.int x :: .int ix :: .ref (ad (tb i + 12)) :: st) := p_iast X (mT_12 hi) hT_12 j hj hn (by decide) d e kk
theorem ag_T13 {own : String} (X : vOk K cc own nL) (hi : i < n) {ix : Int32} (j : Nat) (hj : ix = nI j) (hn : j < 24) {v : Int32} (hv : M.1 (tb i + 13) j = v) (d : decode cc pc = .ok (.iaload, 1)) (e : pc + 1 = pc') (kk : V K nL (wM (kY K) n ad M) n1 n2 pc' lv (.int v :: st)) : V K nL (wM (kY K) n ad M) n1 n2 pc lv (.int ix :: .ref (ad (tb i + 13)) :: st) := p_iald X (mT_13 hi) hT_13 j hj hn (by decide) hv d e kk
theorem as_T13 {own : String} (X : vOk K cc own nL) (hi : i < n) {ix : Int32} {x : Int32} (j : Nat) (hj : ix = nI j) (hn : j < 24) (d : decode cc pc = .ok (.iastore, 1)) (e : pc + 1 = pc') (kk : V K nL (wM (kY K) n ad (mI M (tb i + 13) j x)) n1 n2 pc' lv st) : V K nL (wM (kY K) n ad M) n1 n2 pc lv (.int x :: .int ix :: .ref (ad (tb i + 13)) :: st) := p_iast X (mT_13 hi) hT_13 j hj hn (by decide) d e kk
theorem ag_T14 {own : String} (X : vOk K cc own nL) (hi : i < n) {ix : Int32} (j : Nat) (hj : ix = nI j) (hn : j < 24) {v : Int32} (hv : M.1 (tb i + 14) j = v) (d : decode cc pc = .ok (.iaload, 1)) (e : pc + 1 = pc') (kk : V K nL (wM (kY K) n ad M) n1 n2 pc' lv (.int v :: st)) : V K nL (wM (kY K) n ad M) n1 n2 pc lv (.int ix :: .ref (ad (tb i + 14)) :: st) := p_iald X (mT_14 hi) hT_14 j hj hn (by decide) hv d e kk
theorem as_T14 {own : String} (X : vOk K cc own nL) (hi : i < n) {ix : Int32} {x : Int32} (j : Nat) (hj : ix = nI j) (hn : j < 24) (d : decode cc pc = .ok (.iastore, 1)) (e : pc + 1 = pc') (kk : V K nL (wM (kY K) n ad (mI M (tb i + 14) j x)) n1 n2 pc' lv st) : V K nL (wM (kY K) n ad M) n1 n2 pc lv (.int x :: .int ix :: .ref (ad (tb i + 14)) :: st) := p_iast X (mT_14 hi) hT_14 j hj hn (by decide) d e kk
theorem ag_T15 {own : String} (X : vOk K cc own nL) (hi : i < n) {ix : Int32} (j : Nat) (hj : ix = nI j) (hn : j < 40) {v : Int64} (hv : M.2 (tb i + 15) j = v) (d : decode cc pc = .ok (.laload, 1)) (e : pc + 1 = pc') (kk : V K nL (wM (kY K) n ad M) n1 n2 pc' lv (.long v :: st)) : V K nL (wM (kY K) n ad M) n1 n2 pc lv (.int ix :: .ref (ad (tb i + 15)) :: st) := p_lald X (mT_15 hi) hT_15 j hj hn (by decide) hv d e kk
theorem as_T15 {own : String} (X : vOk K cc own nL) (hi : i < n) {ix : Int32} {x : Int64} (j : Nat) (hj : ix = nI j) (hn : j < 40) (d : decode cc pc = .ok (.lastore, 1)) (e : pc + 1 = pc') (kk : V K nL (wM (kY K) n ad (mL M (tb i + 15) j x)) n1 n2 pc' lv st) : V K nL (wM (kY K) n ad M) n1 n2 pc lv (.long x :: .int ix :: .ref (ad (tb i + 15)) :: st) := p_last X (mT_15 hi) hT_15 j hj hn (by decide) d e kk
theorem ag_T16 {own : String} (X : vOk K cc own nL) (hi : i < n) {ix : Int32} (j : Nat) (hj : ix = nI j) (hn : j < 40) {v : Int64} (hv : M.2 (tb i + 16) j = v) (d : decode cc pc = .ok (.laload, 1)) (e : pc + 1 = pc') (kk : V K nL (wM (kY K) n ad M) n1 n2 pc' lv (.long v :: st)) : V K nL (wM (kY K) n ad M) n1 n2 pc lv (.int ix :: .ref (ad (tb i + 16)) :: st) := p_lald X (mT_16 hi) hT_16 j hj hn (by decide) hv d e kk
theorem as_T16 {own : String} (X : vOk K cc own nL) (hi : i < n) {ix : Int32} {x : Int64} (j : Nat) (hj : ix = nI j) (hn : j < 40) (d : decode cc pc = .ok (.lastore, 1)) (e : pc + 1 = pc') (kk : V K nL (wM (kY K) n ad (mL M (tb i + 16) j x)) n1 n2 pc' lv st) : V K nL (wM (kY K) n ad M) n1 n2 pc lv (.long x :: .int ix :: .ref (ad (tb i + 16)) :: st) := p_last X (mT_16 hi) hT_16 j hj hn (by decide) d e kk
theorem ag_T17 {own : String} (X : vOk K cc own nL) (hi : i < n) {ix : Int32} (j : Nat) (hj : ix = nI j) (hn : j < 40) {v : Int64} (hv : M.2 (tb i + 17) j = v) (d : decode cc pc = .ok (.laload, 1)) (e : pc + 1 = pc') (kk : V K nL (wM (kY K) n ad M) n1 n2 pc' lv (.long v :: st)) : V K nL (wM (kY K) n ad M) n1 n2 pc lv (.int ix :: .ref (ad (tb i + 17)) :: st) := p_lald X (mT_17 hi) hT_17 j hj hn (by decide) hv d e kk
theorem as_T17 {own : String} (X : vOk K cc own nL) (hi : i < n) {ix : Int32} {x : Int64} (j : Nat) (hj : ix = nI j) (hn : j < 40) (d : decode cc pc = .ok (.lastore, 1)) (e : pc + 1 = pc') (kk : V K nL (wM (kY K) n ad (mL M (tb i + 17) j x)) n1 n2 pc' lv st) : V K nL (wM (kY K) n ad M) n1 n2 pc lv (.long x :: .int ix :: .ref (ad (tb i + 17)) :: st) := p_last X (mT_17 hi) hT_17 j hj hn (by decide) d e kk
theorem ag_M13 {own : String} (X : vOk K cc own nL) {ix : Int32} (j : Nat) (hj : ix = nI j) (hn : j < n) (hn2 : j < 16) (d : decode cc pc = .ok (.aaload, 1)) (e : pc + 1 = pc') (kk : V K nL (wM (kY K) n ad M) n1 n2 pc' lv (.ref (ad (tb j)) :: st)) : V K nL (wM (kY K) n ad M) n1 n2 pc lv (.int ix :: .ref (ad 13) :: st) := p_aald X mM_13 3 hM_13 rfl j hj hn2 (by decide) (if_pos hn) d e kk
theorem rv_T (hi : i < n) : ∃ (q0 ci : Nat) (fs : List Value) (q : vw_C), (wM (kY K) n ad M)[q0]? = some (ad (tb i), .inr (ci, fs)) ∧ vwCl[ci]? = some q ∧ q.1 = RX8 := p_recv (mT_0 hi) (hT_0 _ _) rfl rfl
theorem rv_M : ∃ (q0 ci : Nat) (fs : List Value) (q : vw_C), (wM (kY K) n ad M)[q0]? = some (ad 0, .inr (ci, fs)) ∧ vwCl[ci]? = some q ∧ q.1 = RX9 := p_recv mM_0 (hM_0 _ _) rfl rfl
end MACC
end
section
theorem k_J0_charAt_5068e : vCe yJ0_charAt_5068e cJ0_charAt_5068e 2 (some FieldType.char) 1 := ⟨w_co_J0_charAt_5068e, w_in_J0, by decide +kernel, by decide +kernel, by decide +kernel⟩
theorem k_J0_checkIndex_df160 : vCe yJ0_checkIndex_df160 cJ0_checkIndex_df160 2 none 2 := ⟨w_co_J0_checkIndex_df160, w_in_J0, by decide +kernel, by decide +kernel, by decide +kernel⟩
theorem k_J0_isLatin1_aae02 : vCe yJ0_isLatin1_aae02 cJ0_isLatin1_aae02 1 (some FieldType.boolean) 0 := ⟨w_co_J0_isLatin1_aae02, w_in_J0, by decide +kernel, by decide +kernel, by decide +kernel⟩
theorem k_J15_checkIndex_7cf53 : vCe yJ15_checkIndex_7cf53 cJ15_checkIndex_7cf53 2 (some FieldType.int) 2 := ⟨w_co_J15_checkIndex_7cf53, w_in_J15, by decide +kernel, by decide +kernel, by decide +kernel⟩
theorem k_J1_charAt_3b067 : vCe yJ1_charAt_3b067 cJ1_charAt_3b067 2 (some FieldType.char) 2 := ⟨w_co_J1_charAt_3b067, w_in_J1, by decide +kernel, by decide +kernel, by decide +kernel⟩
theorem k_J2_charAt_3b067 : vCe yJ2_charAt_3b067 cJ2_charAt_3b067 2 (some FieldType.char) 2 := ⟨w_co_J2_charAt_3b067, w_in_J2, by decide +kernel, by decide +kernel, by decide +kernel⟩
theorem k_J2_checkIndex_2214a : vCe yJ2_checkIndex_2214a cJ2_checkIndex_2214a 2 none 2 := ⟨w_co_J2_checkIndex_2214a, w_in_J2, by decide +kernel, by decide +kernel, by decide +kernel⟩
theorem k_J2_getChar_3b067 : vCe yJ2_getChar_3b067 cJ2_getChar_3b067 2 (some FieldType.char) 2 := ⟨w_co_J2_getChar_3b067, w_in_J2, by decide +kernel, by decide +kernel, by decide +kernel⟩
theorem k_J2_length_9d52b : vCe yJ2_length_9d52b cJ2_length_9d52b 1 (some FieldType.int) 1 := ⟨w_co_J2_length_9d52b, w_in_J2, by decide +kernel, by decide +kernel, by decide +kernel⟩
theorem k_J3_checkIndex_8e157 : vCe yJ3_checkIndex_8e157 cJ3_checkIndex_8e157 3 (some FieldType.int) 3 := ⟨w_co_J3_checkIndex_8e157, w_in_J3, by decide +kernel, by decide +kernel, by decide +kernel⟩
theorem k_J7_copyOf_1904c : vCe yJ7_copyOf_1904c cJ7_copyOf_1904c 2 (some (FieldType.array (FieldType.object "java/lang/Object"))) 2 := ⟨w_co_J7_copyOf_1904c, w_in_J7, by decide +kernel, by decide +kernel, by decide +kernel⟩
theorem k_J7_copyOf_6403c : vCe yJ7_copyOf_6403c cJ7_copyOf_6403c 4 (some (FieldType.array (FieldType.object "java/lang/Object"))) 3 := ⟨w_co_J7_copyOf_6403c, w_in_J7, by decide +kernel, by decide +kernel, by decide +kernel⟩
theorem k_J7_fill_53178 : vCe yJ7_fill_53178 cJ7_fill_53178 4 none 2 := ⟨w_co_J7_fill_53178, w_in_J7, by decide +kernel, by decide +kernel, by decide +kernel⟩
theorem k_J8_hugeLength_7cf53 : vCe yJ8_hugeLength_7cf53 cJ8_hugeLength_7cf53 3 (some FieldType.int) 2 := ⟨w_co_J8_hugeLength_7cf53, w_in_J8, by decide +kernel, by decide +kernel, by decide +kernel⟩
theorem k_J8_newLength_cabcc : vCe yJ8_newLength_cabcc cJ8_newLength_cabcc 4 (some FieldType.int) 3 := ⟨w_co_J8_newLength_cabcc, w_in_J8, by decide +kernel, by decide +kernel, by decide +kernel⟩
theorem k_J9_max_7cf53 : vCe yJ9_max_7cf53 cJ9_max_7cf53 2 (some FieldType.int) 2 := ⟨w_co_J9_max_7cf53, w_in_J9, by decide +kernel, by decide +kernel, by decide +kernel⟩
theorem k_J9_min_7cf53 : vCe yJ9_min_7cf53 cJ9_min_7cf53 2 (some FieldType.int) 2 := ⟨w_co_J9_min_7cf53, w_in_J9, by decide +kernel, by decide +kernel, by decide +kernel⟩
theorem k_Jx29ce0_ordinal_8abf5 : vCe yJx29ce0_ordinal_8abf5 cJx29ce0_ordinal_8abf5 1 (some FieldType.int) 0 := ⟨w_co_Jx29ce0_ordinal_8abf5, w_in_Jx29ce0, by decide +kernel, by decide +kernel, by decide +kernel⟩
theorem k_Jx4a65c_add_72be8 : vCe yJx4a65c_add_72be8 cJx4a65c_add_72be8 4 none 3 := ⟨w_co_Jx4a65c_add_72be8, w_in_Jx4a65c, by decide +kernel, by decide +kernel, by decide +kernel⟩
theorem k_Jx4a65c_add_9ea2d : vCe yJx4a65c_add_9ea2d cJx4a65c_add_9ea2d 2 (some FieldType.boolean) 1 := ⟨w_co_Jx4a65c_add_9ea2d, w_in_Jx4a65c, by decide +kernel, by decide +kernel, by decide +kernel⟩
theorem k_Jx4a65c_elementData_915e3 : vCe yJx4a65c_elementData_915e3 cJx4a65c_elementData_915e3 2 (some (FieldType.object "java/lang/Object")) 1 := ⟨w_co_Jx4a65c_elementData_915e3, w_in_Jx4a65c, by decide +kernel, by decide +kernel, by decide +kernel⟩
theorem k_Jx4a65c_get_915e3 : vCe yJx4a65c_get_915e3 cJx4a65c_get_915e3 2 (some (FieldType.object "java/lang/Object")) 1 := ⟨w_co_Jx4a65c_get_915e3, w_in_Jx4a65c, by decide +kernel, by decide +kernel, by decide +kernel⟩
theorem k_Jx4a65c_grow_92f84 : vCe yJx4a65c_grow_92f84 cJx4a65c_grow_92f84 4 (some (FieldType.array (FieldType.object "java/lang/Object"))) 1 := ⟨w_co_Jx4a65c_grow_92f84, w_in_Jx4a65c, by decide +kernel, by decide +kernel, by decide +kernel⟩
theorem k_Jx4a65c_grow_d5877 : vCe yJx4a65c_grow_d5877 cJx4a65c_grow_d5877 1 (some (FieldType.array (FieldType.object "java/lang/Object"))) 0 := ⟨w_co_Jx4a65c_grow_d5877, w_in_Jx4a65c, by decide +kernel, by decide +kernel, by decide +kernel⟩
theorem k_Jx4a65c_init_da8c8 : vCe yJx4a65c_init_da8c8 cJx4a65c_init_da8c8 1 none 0 := ⟨w_co_Jx4a65c_init_da8c8, w_in_Jx4a65c, by decide +kernel, by decide +kernel, by decide +kernel⟩
theorem k_Jx4a65c_size_8abf5 : vCe yJx4a65c_size_8abf5 cJx4a65c_size_8abf5 1 (some FieldType.int) 0 := ⟨w_co_Jx4a65c_size_8abf5, w_in_Jx4a65c, by decide +kernel, by decide +kernel, by decide +kernel⟩
theorem k_Jxa1e45_init_da8c8 : vCe yJxa1e45_init_da8c8 cJxa1e45_init_da8c8 1 none 0 := ⟨w_co_Jxa1e45_init_da8c8, w_in_Jxa1e45, by decide +kernel, by decide +kernel, by decide +kernel⟩
theorem k_Jxc12de_init_da8c8 : vCe yJxc12de_init_da8c8 cJxc12de_init_da8c8 1 none 0 := ⟨w_co_Jxc12de_init_da8c8, w_in_Jxc12de, by decide +kernel, by decide +kernel, by decide +kernel⟩
theorem k_X1_assign : vCe yX1_assign cX1_assign 5 none 3 := ⟨w_co_X1_assign, w_in_X1, by decide +kernel, by decide +kernel, by decide +kernel⟩
theorem k_X1_beginMarking : vCe yX1_beginMarking cX1_beginMarking 1 none 0 := ⟨w_co_X1_beginMarking, w_in_X1, by decide +kernel, by decide +kernel, by decide +kernel⟩
theorem k_X1_fillNext : vCe yX1_fillNext cX1_fillNext 7 (some FieldType.int) 3 := ⟨w_co_X1_fillNext, w_in_X1, by decide +kernel, by decide +kernel, by decide +kernel⟩
theorem k_X1_followPlaces : vCe yX1_followPlaces cX1_followPlaces 4 none 2 := ⟨w_co_X1_followPlaces, w_in_X1, by decide +kernel, by decide +kernel, by decide +kernel⟩
theorem k_X1_followRow : vCe yX1_followRow cX1_followRow 5 none 2 := ⟨w_co_X1_followRow, w_in_X1, by decide +kernel, by decide +kernel, by decide +kernel⟩
theorem k_X1_init : vCe yX1_init cX1_init 1 none 0 := ⟨w_co_X1_init, w_in_X1, by decide +kernel, by decide +kernel, by decide +kernel⟩
theorem k_X1_newPair : vCe yX1_newPair cX1_newPair 5 (some FieldType.long) 2 := ⟨w_co_X1_newPair, w_in_X1, by decide +kernel, by decide +kernel, by decide +kernel⟩
theorem k_X1_newVar : vCe yX1_newVar cX1_newVar 3 (some FieldType.long) 1 := ⟨w_co_X1_newVar, w_in_X1, by decide +kernel, by decide +kernel, by decide +kernel⟩
theorem k_X1_reach : vCe yX1_reach cX1_reach 4 none 1 := ⟨w_co_X1_reach, w_in_X1, by decide +kernel, by decide +kernel, by decide +kernel⟩
theorem k_X1_reachOnward : vCe yX1_reachOnward cX1_reachOnward 2 none 0 := ⟨w_co_X1_reachOnward, w_in_X1, by decide +kernel, by decide +kernel, by decide +kernel⟩
theorem k_X1_reachPlaces : vCe yX1_reachPlaces cX1_reachPlaces 4 none 2 := ⟨w_co_X1_reachPlaces, w_in_X1, by decide +kernel, by decide +kernel, by decide +kernel⟩
theorem k_X1_reachRow : vCe yX1_reachRow cX1_reachRow 4 none 2 := ⟨w_co_X1_reachRow, w_in_X1, by decide +kernel, by decide +kernel, by decide +kernel⟩
theorem k_X1_slide : vCe yX1_slide cX1_slide 3 none 0 := ⟨w_co_X1_slide, w_in_X1, by decide +kernel, by decide +kernel, by decide +kernel⟩
theorem k_X2_init : vCe yX2_init cX2_init 5 none 4 := ⟨w_co_X2_init, w_in_X2, by decide +kernel, by decide +kernel, by decide +kernel⟩
theorem k_X3_addRead : vCe yX3_addRead cX3_addRead 2 none 1 := ⟨w_co_X3_addRead, w_in_X3, by decide +kernel, by decide +kernel, by decide +kernel⟩
theorem k_X3_addWrite : vCe yX3_addWrite cX3_addWrite 4 none 2 := ⟨w_co_X3_addWrite, w_in_X3, by decide +kernel, by decide +kernel, by decide +kernel⟩
theorem k_X3_begin : vCe yX3_begin cX3_begin 2 none 1 := ⟨w_co_X3_begin, w_in_X3, by decide +kernel, by decide +kernel, by decide +kernel⟩
theorem k_X3_clear : vCe yX3_clear cX3_clear 1 none 0 := ⟨w_co_X3_clear, w_in_X3, by decide +kernel, by decide +kernel, by decide +kernel⟩
theorem k_X3_hasRead : vCe yX3_hasRead cX3_hasRead 3 (some FieldType.boolean) 1 := ⟨w_co_X3_hasRead, w_in_X3, by decide +kernel, by decide +kernel, by decide +kernel⟩
theorem k_X3_init : vCe yX3_init cX3_init 1 none 0 := ⟨w_co_X3_init, w_in_X3, by decide +kernel, by decide +kernel, by decide +kernel⟩
theorem k_X3_isValid : vCe yX3_isValid cX3_isValid 3 (some FieldType.boolean) 1 := ⟨w_co_X3_isValid, w_in_X3, by decide +kernel, by decide +kernel, by decide +kernel⟩
theorem k_X3_lastWriteOf : vCe yX3_lastWriteOf cX3_lastWriteOf 3 (some FieldType.int) 1 := ⟨w_co_X3_lastWriteOf, w_in_X3, by decide +kernel, by decide +kernel, by decide +kernel⟩
theorem k_X3_readsOneThatIsIn : vCe yX3_readsOneThatIsIn cX3_readsOneThatIsIn 3 (some FieldType.boolean) 1 := ⟨w_co_X3_readsOneThatIsIn, w_in_X3, by decide +kernel, by decide +kernel, by decide +kernel⟩
theorem k_X5_append : vCe yX5_append cX5_append 2 none 1 := ⟨w_co_X5_append, w_in_X5, by decide +kernel, by decide +kernel, by decide +kernel⟩
theorem k_X5_init : vCe yX5_init cX5_init 1 none 0 := ⟨w_co_X5_init, w_in_X5, by decide +kernel, by decide +kernel, by decide +kernel⟩
theorem k_X5_numberAt : vCe yX5_numberAt cX5_numberAt 2 (some FieldType.int) 1 := ⟨w_co_X5_numberAt, w_in_X5, by decide +kernel, by decide +kernel, by decide +kernel⟩
theorem k_X6_beginAgain : vCe yX6_beginAgain cX6_beginAgain 2 none 1 := ⟨w_co_X6_beginAgain, w_in_X6, by decide +kernel, by decide +kernel, by decide +kernel⟩
theorem k_X6_callsOfInnermostNest : vCe yX6_callsOfInnermostNest cX6_callsOfInnermostNest 1 (some FieldType.int) 0 := ⟨w_co_X6_callsOfInnermostNest, w_in_X6, by decide +kernel, by decide +kernel, by decide +kernel⟩
theorem k_X6_dropNestsTo : vCe yX6_dropNestsTo cX6_dropNestsTo 2 none 1 := ⟨w_co_X6_dropNestsTo, w_in_X6, by decide +kernel, by decide +kernel, by decide +kernel⟩
theorem k_X6_enter : vCe yX6_enter cX6_enter 2 none 1 := ⟨w_co_X6_enter, w_in_X6, by decide +kernel, by decide +kernel, by decide +kernel⟩
theorem k_X6_fail : vCe yX6_fail cX6_fail 2 none 1 := ⟨w_co_X6_fail, w_in_X6, by decide +kernel, by decide +kernel, by decide +kernel⟩
theorem k_X6_forgetPlacesFrom : vCe yX6_forgetPlacesFrom cX6_forgetPlacesFrom 3 none 1 := ⟨w_co_X6_forgetPlacesFrom, w_in_X6, by decide +kernel, by decide +kernel, by decide +kernel⟩
theorem k_X6_init : vCe yX6_init cX6_init 2 none 1 := ⟨w_co_X6_init, w_in_X6, by decide +kernel, by decide +kernel, by decide +kernel⟩
theorem k_X6_isInTransaction : vCe yX6_isInTransaction cX6_isInTransaction 1 (some FieldType.boolean) 0 := ⟨w_co_X6_isInTransaction, w_in_X6, by decide +kernel, by decide +kernel, by decide +kernel⟩
theorem k_X6_leave : vCe yX6_leave cX6_leave 1 none 0 := ⟨w_co_X6_leave, w_in_X6, by decide +kernel, by decide +kernel, by decide +kernel⟩
theorem k_X6_openNest : vCe yX6_openNest cX6_openNest 3 none 2 := ⟨w_co_X6_openNest, w_in_X6, by decide +kernel, by decide +kernel, by decide +kernel⟩
theorem k_X6_registersKept : vCe yX6_registersKept cX6_registersKept 1 (some FieldType.int) 0 := ⟨w_co_X6_registersKept, w_in_X6, by decide +kernel, by decide +kernel, by decide +kernel⟩
theorem k_X6_restore : vCe yX6_restore cX6_restore 2 none 1 := ⟨w_co_X6_restore, w_in_X6, by decide +kernel, by decide +kernel, by decide +kernel⟩
theorem k_X6_rollBackTo : vCe yX6_rollBackTo cX6_rollBackTo 2 none 1 := ⟨w_co_X6_rollBackTo, w_in_X6, by decide +kernel, by decide +kernel, by decide +kernel⟩
theorem k_X7_abort : vCe yX7_abort cX7_abort 2 none 1 := ⟨w_co_X7_abort, w_in_X7, by decide +kernel, by decide +kernel, by decide +kernel⟩
theorem k_X7_callsFit : vCe yX7_callsFit cX7_callsFit 2 (some FieldType.boolean) 2 := ⟨w_co_X7_callsFit, w_in_X7, by decide +kernel, by decide +kernel, by decide +kernel⟩
theorem k_X7_collect : vCe yX7_collect cX7_collect 1 (some FieldType.int) 0 := ⟨w_co_X7_collect, w_in_X7, by decide +kernel, by decide +kernel, by decide +kernel⟩
theorem k_X7_commit : vCe yX7_commit cX7_commit 4 none 1 := ⟨w_co_X7_commit, w_in_X7, by decide +kernel, by decide +kernel, by decide +kernel⟩
theorem k_X7_count : vCe yX7_count cX7_count 2 (some FieldType.int) 1 := ⟨w_co_X7_count, w_in_X7, by decide +kernel, by decide +kernel, by decide +kernel⟩
theorem k_X7_faultBefore : vCe yX7_faultBefore cX7_faultBefore 3 (some FieldType.int) 2 := ⟨w_co_X7_faultBefore, w_in_X7, by decide +kernel, by decide +kernel, by decide +kernel⟩
theorem k_X7_followIn : vCe yX7_followIn cX7_followIn 2 none 1 := ⟨w_co_X7_followIn, w_in_X7, by decide +kernel, by decide +kernel, by decide +kernel⟩
theorem k_X7_fork : vCe yX7_fork cX7_fork 6 none 3 := ⟨w_co_X7_fork, w_in_X7, by decide +kernel, by decide +kernel, by decide +kernel⟩
theorem k_X7_global : vCe yX7_global cX7_global 2 (some FieldType.long) 1 := ⟨w_co_X7_global, w_in_X7, by decide +kernel, by decide +kernel, by decide +kernel⟩
theorem k_X7_init : vCe yX7_init cX7_init 1 none 0 := ⟨w_co_X7_init, w_in_X7, by decide +kernel, by decide +kernel, by decide +kernel⟩
theorem k_X7_isDeadlocked : vCe yX7_isDeadlocked cX7_isDeadlocked 4 (some FieldType.boolean) 0 := ⟨w_co_X7_isDeadlocked, w_in_X7, by decide +kernel, by decide +kernel, by decide +kernel⟩
theorem k_X7_markAndSlide : vCe yX7_markAndSlide cX7_markAndSlide 2 none 0 := ⟨w_co_X7_markAndSlide, w_in_X7, by decide +kernel, by decide +kernel, by decide +kernel⟩
theorem k_X7_nestsFit : vCe yX7_nestsFit cX7_nestsFit 3 (some FieldType.boolean) 2 := ⟨w_co_X7_nestsFit, w_in_X7, by decide +kernel, by decide +kernel, by decide +kernel⟩
theorem k_X7_openOrEnd : vCe yX7_openOrEnd cX7_openOrEnd 4 none 3 := ⟨w_co_X7_openOrEnd, w_in_X7, by decide +kernel, by decide +kernel, by decide +kernel⟩
theorem k_X7_operandFits : vCe yX7_operandFits cX7_operandFits 5 (some FieldType.boolean) 3 := ⟨w_co_X7_operandFits, w_in_X7, by decide +kernel, by decide +kernel, by decide +kernel⟩
theorem k_X7_operandsFit : vCe yX7_operandsFit cX7_operandsFit 3 (some FieldType.boolean) 3 := ⟨w_co_X7_operandsFit, w_in_X7, by decide +kernel, by decide +kernel, by decide +kernel⟩
theorem k_X7_output : vCe yX7_output cX7_output 2 (some FieldType.int) 1 := ⟨w_co_X7_output, w_in_X7, by decide +kernel, by decide +kernel, by decide +kernel⟩
theorem k_X7_perform : vCe yX7_perform cX7_perform 5 (some FieldType.int) 2 := ⟨w_co_X7_perform, w_in_X7, by decide +kernel, by decide +kernel, by decide +kernel⟩
theorem k_X7_performPlainly : vCe yX7_performPlainly cX7_performPlainly 8 none 3 := ⟨w_co_X7_performPlainly, w_in_X7, by decide +kernel, by decide +kernel, by decide +kernel⟩
theorem k_X7_place : vCe yX7_place cX7_place 3 (some FieldType.long) 2 := ⟨w_co_X7_place, w_in_X7, by decide +kernel, by decide +kernel, by decide +kernel⟩
theorem k_X7_placeOf : vCe yX7_placeOf cX7_placeOf 2 (some FieldType.int) 1 := ⟨w_co_X7_placeOf, w_in_X7, by decide +kernel, by decide +kernel, by decide +kernel⟩
theorem k_X7_put : vCe yX7_put cX7_put 6 (some FieldType.int) 4 := ⟨w_co_X7_put, w_in_X7, by decide +kernel, by decide +kernel, by decide +kernel⟩
theorem k_X7_raise : vCe yX7_raise cX7_raise 5 none 2 := ⟨w_co_X7_raise, w_in_X7, by decide +kernel, by decide +kernel, by decide +kernel⟩
theorem k_X7_reachFrom : vCe yX7_reachFrom cX7_reachFrom 2 none 1 := ⟨w_co_X7_reachFrom, w_in_X7, by decide +kernel, by decide +kernel, by decide +kernel⟩
theorem k_X7_readVar : vCe yX7_readVar cX7_readVar 7 (some FieldType.int) 3 := ⟨w_co_X7_readVar, w_in_X7, by decide +kernel, by decide +kernel, by decide +kernel⟩
theorem k_X7_register : vCe yX7_register cX7_register 3 (some FieldType.long) 2 := ⟨w_co_X7_register, w_in_X7, by decide +kernel, by decide +kernel, by decide +kernel⟩
theorem k_X7_retry : vCe yX7_retry cX7_retry 3 none 1 := ⟨w_co_X7_retry, w_in_X7, by decide +kernel, by decide +kernel, by decide +kernel⟩
theorem k_X7_run : vCe yX7_run cX7_run 5 (some FieldType.int) 2 := ⟨w_co_X7_run, w_in_X7, by decide +kernel, by decide +kernel, by decide +kernel⟩
theorem k_X7_sortOf : vCe yX7_sortOf cX7_sortOf 2 (some FieldType.int) 1 := ⟨w_co_X7_sortOf, w_in_X7, by decide +kernel, by decide +kernel, by decide +kernel⟩
theorem k_X7_step : vCe yX7_step cX7_step 4 none 1 := ⟨w_co_X7_step, w_in_X7, by decide +kernel, by decide +kernel, by decide +kernel⟩
theorem k_X7_thread : vCe yX7_thread cX7_thread 4 (some FieldType.int) 2 := ⟨w_co_X7_thread, w_in_X7, by decide +kernel, by decide +kernel, by decide +kernel⟩
theorem k_X7_turn : vCe yX7_turn cX7_turn 6 (some FieldType.int) 1 := ⟨w_co_X7_turn, w_in_X7, by decide +kernel, by decide +kernel, by decide +kernel⟩
theorem k_X7_wakeReadersOf : vCe yX7_wakeReadersOf cX7_wakeReadersOf 4 none 1 := ⟨w_co_X7_wakeReadersOf, w_in_X7, by decide +kernel, by decide +kernel, by decide +kernel⟩
theorem k_X7_writeVar : vCe yX7_writeVar cX7_writeVar 4 (some FieldType.int) 3 := ⟨w_co_X7_writeVar, w_in_X7, by decide +kernel, by decide +kernel, by decide +kernel⟩
theorem k_X8_again : vCe yX8_again cX8_again 3 none 1 := ⟨w_co_X8_again, w_in_X8, by decide +kernel, by decide +kernel, by decide +kernel⟩
theorem k_X8_atomic : vCe yX8_atomic cX8_atomic 2 (some FieldType.int) 0 := ⟨w_co_X8_atomic, w_in_X8, by decide +kernel, by decide +kernel, by decide +kernel⟩
theorem k_X8_end : vCe yX8_end cX8_end 3 none 2 := ⟨w_co_X8_end, w_in_X8, by decide +kernel, by decide +kernel, by decide +kernel⟩
theorem k_X8_hasRead : vCe yX8_hasRead cX8_hasRead 4 (some FieldType.boolean) 1 := ⟨w_co_X8_hasRead, w_in_X8, by decide +kernel, by decide +kernel, by decide +kernel⟩
theorem k_X8_init : vCe yX8_init cX8_init 1 none 0 := ⟨w_co_X8_init, w_in_X8, by decide +kernel, by decide +kernel, by decide +kernel⟩
theorem k_X8_nest : vCe yX8_nest cX8_nest 4 none 2 := ⟨w_co_X8_nest, w_in_X8, by decide +kernel, by decide +kernel, by decide +kernel⟩
theorem k_X8_restore : vCe yX8_restore cX8_restore 3 none 1 := ⟨w_co_X8_restore, w_in_X8, by decide +kernel, by decide +kernel, by decide +kernel⟩
theorem k_X8_rollBack : vCe yX8_rollBack cX8_rollBack 2 none 1 := ⟨w_co_X8_rollBack, w_in_X8, by decide +kernel, by decide +kernel, by decide +kernel⟩
theorem k_X9_aborted : vCe yX9_aborted cX9_aborted 2 (some FieldType.int) 1 := ⟨w_co_X9_aborted, w_in_X9, by decide +kernel, by decide +kernel, by decide +kernel⟩
theorem k_X9_collect : vCe yX9_collect cX9_collect 1 (some FieldType.int) 0 := ⟨w_co_X9_collect, w_in_X9, by decide +kernel, by decide +kernel, by decide +kernel⟩
theorem k_X9_committed : vCe yX9_committed cX9_committed 7 (some FieldType.int) 1 := ⟨w_co_X9_committed, w_in_X9, by decide +kernel, by decide +kernel, by decide +kernel⟩
theorem k_X9_count : vCe yX9_count cX9_count 5 (some FieldType.int) 1 := ⟨w_co_X9_count, w_in_X9, by decide +kernel, by decide +kernel, by decide +kernel⟩
theorem k_X9_fail : vCe yX9_fail cX9_fail 2 (some FieldType.int) 1 := ⟨w_co_X9_fail, w_in_X9, by decide +kernel, by decide +kernel, by decide +kernel⟩
theorem k_X9_gather : vCe yX9_gather cX9_gather 5 none 0 := ⟨w_co_X9_gather, w_in_X9, by decide +kernel, by decide +kernel, by decide +kernel⟩
theorem k_X9_global : vCe yX9_global cX9_global 2 (some FieldType.long) 1 := ⟨w_co_X9_global, w_in_X9, by decide +kernel, by decide +kernel, by decide +kernel⟩
theorem k_X9_guarded : vCe yX9_guarded cX9_guarded 5 (some FieldType.int) 4 := ⟨w_co_X9_guarded, w_in_X9, by decide +kernel, by decide +kernel, by decide +kernel⟩
theorem k_X9_init : vCe yX9_init cX9_init 1 none 0 := ⟨w_co_X9_init, w_in_X9, by decide +kernel, by decide +kernel, by decide +kernel⟩
theorem k_X9_isInt : vCe yX9_isInt cX9_isInt 2 (some FieldType.boolean) 1 := ⟨w_co_X9_isInt, w_in_X9, by decide +kernel, by decide +kernel, by decide +kernel⟩
theorem k_X9_isPair : vCe yX9_isPair cX9_isPair 2 (some FieldType.boolean) 1 := ⟨w_co_X9_isPair, w_in_X9, by decide +kernel, by decide +kernel, by decide +kernel⟩
theorem k_X9_isVar : vCe yX9_isVar cX9_isVar 2 (some FieldType.boolean) 1 := ⟨w_co_X9_isVar, w_in_X9, by decide +kernel, by decide +kernel, by decide +kernel⟩
theorem k_X9_known : vCe yX9_known cX9_known 7 (some FieldType.int) 5 := ⟨w_co_X9_known, w_in_X9, by decide +kernel, by decide +kernel, by decide +kernel⟩
theorem k_X9_made : vCe yX9_made cX9_made 6 (some FieldType.int) 5 := ⟨w_co_X9_made, w_in_X9, by decide +kernel, by decide +kernel, by decide +kernel⟩
theorem k_X9_moveRow : vCe yX9_moveRow cX9_moveRow 4 none 2 := ⟨w_co_X9_moveRow, w_in_X9, by decide +kernel, by decide +kernel, by decide +kernel⟩
theorem k_X9_moved : vCe yX9_moved cX9_moved 3 (some FieldType.long) 1 := ⟨w_co_X9_moved, w_in_X9, by decide +kernel, by decide +kernel, by decide +kernel⟩
theorem k_X9_noGlobal : vCe yX9_noGlobal cX9_noGlobal 1 (some FieldType.boolean) 1 := ⟨w_co_X9_noGlobal, w_in_X9, by decide +kernel, by decide +kernel, by decide +kernel⟩
theorem k_X9_noRegister : vCe yX9_noRegister cX9_noRegister 1 (some FieldType.boolean) 1 := ⟨w_co_X9_noRegister, w_in_X9, by decide +kernel, by decide +kernel, by decide +kernel⟩
theorem k_X9_noTask : vCe yX9_noTask cX9_noTask 2 (some FieldType.boolean) 1 := ⟨w_co_X9_noTask, w_in_X9, by decide +kernel, by decide +kernel, by decide +kernel⟩
theorem k_X9_outer : vCe yX9_outer cX9_outer 7 (some FieldType.int) 4 := ⟨w_co_X9_outer, w_in_X9, by decide +kernel, by decide +kernel, by decide +kernel⟩
theorem k_X9_output : vCe yX9_output cX9_output 2 (some FieldType.int) 1 := ⟨w_co_X9_output, w_in_X9, by decide +kernel, by decide +kernel, by decide +kernel⟩
theorem k_X9_place : vCe yX9_place cX9_place 2 (some FieldType.int) 1 := ⟨w_co_X9_place, w_in_X9, by decide +kernel, by decide +kernel, by decide +kernel⟩
theorem k_X9_place_ : vCe yX9_place_ cX9_place_ 3 (some FieldType.long) 2 := ⟨w_co_X9_place_, w_in_X9, by decide +kernel, by decide +kernel, by decide +kernel⟩
theorem k_X9_plain : vCe yX9_plain cX9_plain 7 (some FieldType.int) 5 := ⟨w_co_X9_plain, w_in_X9, by decide +kernel, by decide +kernel, by decide +kernel⟩
theorem k_X9_put : vCe yX9_put cX9_put 5 (some FieldType.int) 4 := ⟨w_co_X9_put, w_in_X9, by decide +kernel, by decide +kernel, by decide +kernel⟩
theorem k_X9_reach : vCe yX9_reach cX9_reach 3 (some FieldType.boolean) 1 := ⟨w_co_X9_reach, w_in_X9, by decide +kernel, by decide +kernel, by decide +kernel⟩
theorem k_X9_reachRow : vCe yX9_reachRow cX9_reachRow 5 (some FieldType.boolean) 2 := ⟨w_co_X9_reachRow, w_in_X9, by decide +kernel, by decide +kernel, by decide +kernel⟩
theorem k_X9_reading : vCe yX9_reading cX9_reading 6 (some FieldType.int) 3 := ⟨w_co_X9_reading, w_in_X9, by decide +kernel, by decide +kernel, by decide +kernel⟩
theorem k_X9_register : vCe yX9_register cX9_register 3 (some FieldType.long) 2 := ⟨w_co_X9_register, w_in_X9, by decide +kernel, by decide +kernel, by decide +kernel⟩
theorem k_X9_retried : vCe yX9_retried cX9_retried 3 (some FieldType.int) 1 := ⟨w_co_X9_retried, w_in_X9, by decide +kernel, by decide +kernel, by decide +kernel⟩
theorem k_X9_run : vCe yX9_run cX9_run 4 (some FieldType.int) 2 := ⟨w_co_X9_run, w_in_X9, by decide +kernel, by decide +kernel, by decide +kernel⟩
theorem k_X9_slide : vCe yX9_slide cX9_slide 4 none 0 := ⟨w_co_X9_slide, w_in_X9, by decide +kernel, by decide +kernel, by decide +kernel⟩
theorem k_X9_step : vCe yX9_step cX9_step 4 none 1 := ⟨w_co_X9_step, w_in_X9, by decide +kernel, by decide +kernel, by decide +kernel⟩
theorem k_X9_thread : vCe yX9_thread cX9_thread 4 (some FieldType.int) 2 := ⟨w_co_X9_thread, w_in_X9, by decide +kernel, by decide +kernel, by decide +kernel⟩
theorem k_X9_thrown : vCe yX9_thrown cX9_thrown 1 (some FieldType.int) 0 := ⟨w_co_X9_thrown, w_in_X9, by decide +kernel, by decide +kernel, by decide +kernel⟩
theorem k_X9_thrownUp : vCe yX9_thrownUp cX9_thrownUp 4 (some FieldType.int) 2 := ⟨w_co_X9_thrownUp, w_in_X9, by decide +kernel, by decide +kernel, by decide +kernel⟩
theorem k_X9_turn : vCe yX9_turn cX9_turn 5 (some FieldType.int) 1 := ⟨w_co_X9_turn, w_in_X9, by decide +kernel, by decide +kernel, by decide +kernel⟩
theorem k_X9_valid : vCe yX9_valid cX9_valid 3 (some FieldType.boolean) 1 := ⟨w_co_X9_valid, w_in_X9, by decide +kernel, by decide +kernel, by decide +kernel⟩
theorem k_X9_wrong : vCe yX9_wrong cX9_wrong 8 (some FieldType.boolean) 5 := ⟨w_co_X9_wrong, w_in_X9, by decide +kernel, by decide +kernel, by decide +kernel⟩
end
section
/-! THE TASK'S METHODS (reference) -/
/-- registers and calls as they were when nest k began -/
def fRestore (M : vM) (b k : Nat) : vM := mRL (mI M b 3 (M.1 (b + 13) k)) (b + 8) (vcp (M.2 (b + 9)) (16 * k) 0 16 (M.2 (b + 8)))
def fNest (M : vM) (b e : Nat) (kind to : Int32) : vM := mI (mRL (mI (mI (mI (mI M (b + 11) e kind) (b + 12) e to) (b + 13) e (M.1 b 3)) (b + 14) e (M.1 b 6)) (b + 9) (vcp (M.2 (b + 8)) 0 (16 * e) 16 (M.2 (b + 9)))) b 4 (nI (e + 1))
def fRollBack (M : vM) (b k : Nat) : vM := mI (mI (mI (fRestore M b k) b 6 (M.1 (b + 14) k)) b 4 (nI k)) b 2 (M.1 (b + 12) k)
def fAgain (M : vM) (b k : Nat) (clock : Int32) : vM := mI (mI (mI (mI (mI (mI (fRestore M b k) b 4 (nI (k + 1))) b 5 0) b 6 0) b 7 clock) b 2 (M.1 (b + 12) k)) b 0 1
def fEnd (M : vM) (b : Nat) (how why : Int32) : vM := mI (mI (mI (mI (mI M b 0 how) b 1 why) b 4 0) b 5 0) b 6 0
/-- the atomic nest's number, or -1, among e nests with sorts s -/
def aAt (s : Nat → Int32) (e : Nat) (r : Int32) : Prop := (∃ k, k < e ∧ s k = 0 ∧ (∀ j, j < k → s j ≠ 0) ∧ r = nI k) ∨ ((∀ j, j < e → s j ≠ 0) ∧ r = -1)
theorem aAt_eq {s : Nat → Int32} {e k : Nat} {r : Int32} (h : aAt s e r) (hk : k < e) (h0 : s k = 0) (hj : ∀ j, j < k → s j ≠ 0) : r = nI k := by
  rcases h with ⟨q, h1, h2, h3, h4⟩ | ⟨h1, -⟩
  · rcases Nat.lt_trichotomy q k with c9 | c9 | c9
    · exact absurd h2 (hj q c9)
    · rw [h4, c9]
    · exact absurd h0 (h3 k c9)
  · exact absurd h0 (h1 k hk)
/-- whether v is among the first e of f -/
def aIn (f : Nat → Int64) (e : Nat) (v : Int64) (r : Int32) : Prop := (r = 1 ∧ ∃ k, k < e ∧ f k = v) ∨ (r = 0 ∧ ∀ k, k < e → f k ≠ v)
theorem vcp_sL0 (s : Nat → Int64) (p j : Nat) (d : Nat → Int64) : vp_updL (vcp s p 0 j d) j (s (p + j)) = vcp s p 0 (j + 1) d := by
  have hh := vcp_sL s p 0 j d
  rwa [Nat.zero_add] at hh
theorem vcp_sLp (s : Nat → Int64) (o j : Nat) (d : Nat → Int64) : vp_updL (vcp s 0 o j d) (o + j) (s j) = vcp s 0 o (j + 1) d := by
  have hh := vcp_sL s 0 o j d
  rwa [Nat.zero_add] at hh
set_option maxHeartbeats 4000000 in
set_option maxRecDepth 100000 in
/-- atomic() -/
theorem c_X8_atomic {l : Launch} {D : va_G} {Y : Nat → ClassId} {z : Nat → Nat} {n : Nat} {ad : Nat → Nat} {M : vM} {i e : Nat} (hi : i < n) (hne : M.1 (tb i) 4 = nI e) (he : e ≤ 24) : Ct l D Y z yX8_atomic cX8_atomic 2 (some FieldType.int) 0 0 [.ref (ad (tb i))] (wM Y n ad M) 0 0 (fun r w => w = wM Y n ad M ∧ ∃ x : Int32, r = some (.int x) ∧ aAt (M.1 (tb i + 11)) e x) := by
  refine v_entry (by decide +kernel) (Nat.le_of_ble_eq_true rfl) ?_
  intro K X R hR hnm hl hD hY hz
  subst hl hD hY hz
  refine v_sub (lv' := [(0, .ref (ad (tb i)))]) [0] rfl ?_
  refine v_iconst (pc' := 1) (v := 0) X dX8_atomic_0 (by decide) rfl ?_
  refine v_istore_n (pc' := 2) (i := 1) (lv' := [(1, .int 0), (0, .ref (ad (tb i)))]) X dX8_atomic_1 rfl (by decide) rfl rfl ?_
  have hloop : ∀ (dd_hloop : Nat) (k : Nat), e - k < dd_hloop → (k ≤ e) → (∀ j, j < k → M.1 (tb i + 11) j ≠ 0) → V K 2 (wM (kY K) n ad M) 0 0 2 [(1, .int (nI k)), (0, .ref (ad (tb i)))] [] := by
    intro dd_hloop
    induction dd_hloop with
    | zero => intro k hlt_hloop; exact absurd hlt_hloop (Nat.not_lt_zero _)
    | succ dd_hloop ih_hloop =>
      intro k hlt_hloop hk hno
      refine v_iload_n (pc' := 3) (i := 1) (j := 0) X dX8_atomic_2 rfl rfl rfl ?_
      refine v_aload_n (pc' := 4) (i := 0) (j := 1) X dX8_atomic_3 rfl rfl rfl ?_
      refine fg_X8_47 (pc' := 7) X hi (v := nI e) hne dX8_atomic_4 rfl ?_
      refine v_icmp_ge (pc' := 10) (tgt := 27) X dX8_atomic_7 (by decide) rfl (fun hc_7 => ?_) (fun hc_7 => ?_)
      -- taken 7
      · refine v_iconst (pc' := 28) (v := (-1)) X dX8_atomic_27 (by decide) rfl ?_
        refine v_ireturn X R (Nat.zero_le _) (Nat.zero_le _) dX8_atomic_28 ?_
        exact ⟨rfl, _, rfl, Or.inr ⟨fun j hj => hno j (by have hh := le_of_nI hc_7 (by omega) (by omega); omega), rfl⟩⟩
      -- not taken 7
      · have hke : k < e := by
          rcases Nat.lt_or_ge k e with q9 | q9
          · exact q9
          · exact absurd (nI_le q9 (by omega)) hc_7
        refine v_aload_n (pc' := 11) (i := 0) (j := 1) X dX8_atomic_10 rfl rfl rfl ?_
        refine fg_X8_26 (pc' := 14) X hi dX8_atomic_11 rfl ?_
        refine v_iload_n (pc' := 15) (i := 1) (j := 0) X dX8_atomic_14 rfl rfl rfl ?_
        refine ag_T11 (pc' := 16) X hi (v := M.1 (tb i + 11) k) (k) rfl (by omega) rfl dX8_atomic_15 rfl ?_
        refine v_if_ne (pc' := 19) (tgt := 21) X dX8_atomic_16 (by decide) rfl (fun hc_16 => ?_) (fun hc_16 => ?_)
        -- taken 16
        · refine v_iinc (pc' := 24) (j := 0) (v := nI (k + 1)) (lv' := [(1, .int (nI (k + 1))), (0, .ref (ad (tb i)))]) X dX8_atomic_21 rfl (nI_add (k) 1) (by decide) rfl rfl ?_
          refine v_goto (pc' := 2) X dX8_atomic_24 (by decide) ?_
          exact ih_hloop (k + 1) (by omega) (by omega) (lt_s hno hc_16)
        -- not taken 16
        · refine v_iload_n (pc' := 20) (i := 1) (j := 0) X dX8_atomic_19 rfl rfl rfl ?_
          refine v_ireturn X R (Nat.zero_le _) (Nat.zero_le _) dX8_atomic_20 ?_
          exact ⟨rfl, _, rfl, Or.inl ⟨k, hke, hc_16, hno, rfl⟩⟩
  exact hloop _ 0 (Nat.lt_succ_self _) (by omega) lt_0
set_option maxHeartbeats 4000000 in
set_option maxRecDepth 100000 in
/-- restore(k) -/
theorem c_X8_restore {l : Launch} {D : va_G} {Y : Nat → ClassId} {z : Nat → Nat} {n : Nat} {ad : Nat → Nat} {M : vM} {i k : Nat} (hi : i < n) (hk : k < 24) : Ct l D Y z yX8_restore cX8_restore 3 none 0 0 [.ref (ad (tb i)), .int (nI k)] (wM Y n ad M) 0 0 (fun r w => r = none ∧ w = wM Y n ad (fRestore M (tb i) k)) := by
  refine v_entry (by decide +kernel) (Nat.le_of_ble_eq_true rfl) ?_
  intro K X R hR hnm hl hD hY hz
  subst hl hD hY hz
  refine v_sub (lv' := [(0, .ref (ad (tb i))), (1, .int (nI k))]) [0, 1] rfl ?_
  refine v_aload_n (pc' := 1) (i := 0) (j := 0) X dX8_restore_0 rfl rfl rfl ?_
  refine v_aload_n (pc' := 2) (i := 0) (j := 0) X dX8_restore_1 rfl rfl rfl ?_
  refine fg_X8_32 (pc' := 5) X hi dX8_restore_2 rfl ?_
  refine v_iload_n (pc' := 6) (i := 1) (j := 1) X dX8_restore_5 rfl rfl rfl ?_
  refine ag_T13 (pc' := 7) X hi (v := M.1 (tb i + 13) k) (k) rfl (by omega) rfl dX8_restore_6 rfl ?_
  refine fp_X8_50 (pc' := 10) X hi dX8_restore_7 rfl ?_
  refine v_iconst (pc' := 11) (v := 0) X dX8_restore_10 (by decide) rfl ?_
  refine v_istore_n (pc' := 12) (i := 2) (lv' := [(2, .int 0), (0, .ref (ad (tb i))), (1, .int (nI k))]) X dX8_restore_11 rfl (by decide) rfl rfl ?_
  have hloop : ∀ (dd_hloop : Nat) (j : Nat), 16 - j < dd_hloop → (j ≤ 16) → V K 3 (wM (kY K) n ad (mRL (mI M (tb i) 3 (M.1 (tb i + 13) k)) (tb i + 8) (vcp (M.2 (tb i + 9)) (16 * k) 0 j (M.2 (tb i + 8))))) 0 0 12 [(2, .int (nI j)), (1, .int (nI k)), (0, .ref (ad (tb i)))] [] := by
    intro dd_hloop
    induction dd_hloop with
    | zero => intro j hlt_hloop; exact absurd hlt_hloop (Nat.not_lt_zero _)
    | succ dd_hloop ih_hloop =>
      intro j hlt_hloop hj
      refine v_iload_n (pc' := 13) (i := 2) (j := 0) X dX8_restore_12 rfl rfl rfl ?_
      refine v_bipush (pc' := 15) (v := 16) X dX8_restore_13 (by decide) rfl ?_
      refine v_icmp_ge (pc' := 18) (tgt := 41) X dX8_restore_15 (by decide) rfl (fun hc_15 => ?_) (fun hc_15 => ?_)
      -- taken 15
      · obtain rfl : j = 16 := by have hh := le_of_nI (a := 16) (b := j) hc_15 (by omega) (by omega); omega
        refine v_return X R (Nat.zero_le _) (Nat.zero_le _) dX8_restore_41 ?_
        exact ⟨rfl, rfl⟩
      -- not taken 15
      · have hj2 : j < 16 := by
          rcases Nat.lt_or_ge j 16 with q9 | q9
          · exact q9
          · exact absurd (nI_le q9 (by omega)) hc_15
        refine v_aload_n (pc' := 19) (i := 0) (j := 2) X dX8_restore_18 rfl rfl rfl ?_
        refine fg_X8_15 (pc' := 22) X hi dX8_restore_19 rfl ?_
        refine v_iload_n (pc' := 23) (i := 2) (j := 0) X dX8_restore_22 rfl rfl rfl ?_
        refine v_aload_n (pc' := 24) (i := 0) (j := 2) X dX8_restore_23 rfl rfl rfl ?_
        refine fg_X8_19 (pc' := 27) X hi dX8_restore_24 rfl ?_
        refine v_bipush (pc' := 29) (v := 16) X dX8_restore_27 (by decide) rfl ?_
        refine v_iload_n (pc' := 30) (i := 1) (j := 1) X dX8_restore_29 rfl rfl rfl ?_
        refine v_imulV (pc' := 31) (v := nI (16 * (k))) X (pk_mul 16 (k)) dX8_restore_30 rfl ?_
        refine v_iload_n (pc' := 32) (i := 2) (j := 0) X dX8_restore_31 rfl rfl rfl ?_
        refine v_iaddV (pc' := 33) (v := nI (16 * (k) + j)) X (nI_add (16 * (k)) (j)) dX8_restore_32 rfl ?_
        refine ag_T9 (pc' := 34) X hi (v := M.2 (tb i + 9) (16 * (k) + j)) (16 * (k) + j) rfl (by omega) (congrFun (mRL_n _ _ _ (by omega)) _) dX8_restore_33 rfl ?_
        refine as_T8 (pc' := 35) X hi (j) rfl (by omega) dX8_restore_34 rfl ?_
        refine v_iinc (pc' := 38) (j := 0) (v := nI (j + 1)) (lv' := [(2, .int (nI (j + 1))), (1, .int (nI k)), (0, .ref (ad (tb i)))]) X dX8_restore_35 rfl (nI_add (j) 1) (by decide) rfl rfl ?_
        refine v_goto (pc' := 12) X dX8_restore_38 (by decide) ?_
        refine v_eqw (ws' := wM (kY K) n ad (mRL (mI M (tb i) 3 (M.1 (tb i + 13) k)) (tb i + 8) (vcp (M.2 (tb i + 9)) (16 * k) 0 (j + 1) (M.2 (tb i + 8))))) (by rw [mL_mRL, vcp_sL0]) ?_
        exact ih_hloop (j + 1) (by omega) (by omega)
  refine v_eqw (ws' := wM (kY K) n ad (mRL (mI M (tb i) 3 (M.1 (tb i + 13) k)) (tb i + 8) (vcp (M.2 (tb i + 9)) (16 * k) 0 0 (M.2 (tb i + 8))))) (by rw [vcp_0]; exact (congrArg (pM _ _ _) (mRL_self _ _)).symm) ?_
  refine v_sub (lv' := [(2, .int 0), (1, .int (nI k)), (0, .ref (ad (tb i)))]) [0, 2, 1] rfl ?_
  exact hloop _ 0 (Nat.lt_succ_self _) (by omega)
set_option maxHeartbeats 4000000 in
set_option maxRecDepth 100000 in
/-- nest(kind, to) -/
theorem c_X8_nest {l : Launch} {D : va_G} {Y : Nat → ClassId} {z : Nat → Nat} {n : Nat} {ad : Nat → Nat} {M : vM} {i e : Nat} (hi : i < n) (hne : M.1 (tb i) 4 = nI e) (he : e < 24) {kind to : Int32} : Ct l D Y z yX8_nest cX8_nest 4 none 0 0 [.ref (ad (tb i)), .int kind, .int to] (wM Y n ad M) 0 0 (fun r w => r = none ∧ w = wM Y n ad (fNest M (tb i) e kind to)) := by
  refine v_entry (by decide +kernel) (Nat.le_of_ble_eq_true rfl) ?_
  intro K X R hR hnm hl hD hY hz
  subst hl hD hY hz
  refine v_sub (lv' := [(0, .ref (ad (tb i))), (1, .int kind), (2, .int to)]) [0, 1, 2] rfl ?_
  refine v_aload_n (pc' := 1) (i := 0) (j := 0) X dX8_nest_0 rfl rfl rfl ?_
  refine fg_X8_26 (pc' := 4) X hi dX8_nest_1 rfl ?_
  refine v_aload_n (pc' := 5) (i := 0) (j := 0) X dX8_nest_4 rfl rfl rfl ?_
  refine fg_X8_47 (pc' := 8) X hi (v := nI e) hne dX8_nest_5 rfl ?_
  refine v_iload_n (pc' := 9) (i := 1) (j := 1) X dX8_nest_8 rfl rfl rfl ?_
  refine as_T11 (pc' := 10) X hi (e) rfl (by omega) dX8_nest_9 rfl ?_
  refine v_aload_n (pc' := 11) (i := 0) (j := 0) X dX8_nest_10 rfl rfl rfl ?_
  refine fg_X8_29 (pc' := 14) X hi dX8_nest_11 rfl ?_
  refine v_aload_n (pc' := 15) (i := 0) (j := 0) X dX8_nest_14 rfl rfl rfl ?_
  refine fg_X8_47 (pc' := 18) X hi (v := nI e) ((congrFun (mI_n _ _ _ _ (by omega)) _).trans hne) dX8_nest_15 rfl ?_
  refine v_iload_n (pc' := 19) (i := 2) (j := 2) X dX8_nest_18 rfl rfl rfl ?_
  refine as_T12 (pc' := 20) X hi (e) rfl (by omega) dX8_nest_19 rfl ?_
  refine v_aload_n (pc' := 21) (i := 0) (j := 0) X dX8_nest_20 rfl rfl rfl ?_
  refine fg_X8_32 (pc' := 24) X hi dX8_nest_21 rfl ?_
  refine v_aload_n (pc' := 25) (i := 0) (j := 0) X dX8_nest_24 rfl rfl rfl ?_
  refine fg_X8_47 (pc' := 28) X hi (v := nI e) ((congrFun (mI_n _ _ _ _ (by omega)) _).trans ((congrFun (mI_n _ _ _ _ (by omega)) _).trans hne)) dX8_nest_25 rfl ?_
  refine v_aload_n (pc' := 29) (i := 0) (j := 0) X dX8_nest_28 rfl rfl rfl ?_
  refine fg_X8_50 (pc' := 32) X hi (v := M.1 (tb i) 3) ((congrFun (mI_n _ _ _ _ (by omega)) _).trans (congrFun (mI_n _ _ _ _ (by omega)) _)) dX8_nest_29 rfl ?_
  refine as_T13 (pc' := 33) X hi (e) rfl (by omega) dX8_nest_32 rfl ?_
  refine v_aload_n (pc' := 34) (i := 0) (j := 0) X dX8_nest_33 rfl rfl rfl ?_
  refine fg_X8_35 (pc' := 37) X hi dX8_nest_34 rfl ?_
  refine v_aload_n (pc' := 38) (i := 0) (j := 0) X dX8_nest_37 rfl rfl rfl ?_
  refine fg_X8_47 (pc' := 41) X hi (v := nI e) ((congrFun (mI_n _ _ _ _ (by omega)) _).trans ((congrFun (mI_n _ _ _ _ (by omega)) _).trans ((congrFun (mI_n _ _ _ _ (by omega)) _).trans hne))) dX8_nest_38 rfl ?_
  refine v_aload_n (pc' := 42) (i := 0) (j := 0) X dX8_nest_41 rfl rfl rfl ?_
  refine fg_X8_53 (pc' := 45) X hi (v := M.1 (tb i) 6) ((congrFun (mI_n _ _ _ _ (by omega)) _).trans ((congrFun (mI_n _ _ _ _ (by omega)) _).trans (congrFun (mI_n _ _ _ _ (by omega)) _))) dX8_nest_42 rfl ?_
  refine as_T14 (pc' := 46) X hi (e) rfl (by omega) dX8_nest_45 rfl ?_
  refine v_iconst (pc' := 47) (v := 0) X dX8_nest_46 (by decide) rfl ?_
  refine v_istore_n (pc' := 48) (i := 3) (lv' := [(3, .int 0), (0, .ref (ad (tb i))), (1, .int kind), (2, .int to)]) X dX8_nest_47 rfl (by decide) rfl rfl ?_
  have hloop : ∀ (dd_hloop : Nat) (j : Nat), 16 - j < dd_hloop → (j ≤ 16) → V K 4 (wM (kY K) n ad (mRL (mI (mI (mI (mI M (tb i + 11) e kind) (tb i + 12) e to) (tb i + 13) e (M.1 (tb i) 3)) (tb i + 14) e (M.1 (tb i) 6)) (tb i + 9) (vcp (M.2 (tb i + 8)) 0 (16 * e) j (M.2 (tb i + 9))))) 0 0 48 [(3, .int (nI j)), (1, .int kind), (2, .int to), (0, .ref (ad (tb i)))] [] := by
    intro dd_hloop
    induction dd_hloop with
    | zero => intro j hlt_hloop; exact absurd hlt_hloop (Nat.not_lt_zero _)
    | succ dd_hloop ih_hloop =>
      intro j hlt_hloop hj
      refine v_iload_n (pc' := 49) (i := 3) (j := 0) X dX8_nest_48 rfl rfl rfl ?_
      refine v_bipush (pc' := 51) (v := 16) X dX8_nest_49 (by decide) rfl ?_
      refine v_icmp_ge (pc' := 54) (tgt := 80) X dX8_nest_51 (by decide) rfl (fun hc_51 => ?_) (fun hc_51 => ?_)
      -- taken 51
      · obtain rfl : j = 16 := by have hh := le_of_nI (a := 16) (b := j) hc_51 (by omega) (by omega); omega
        refine v_aload_n (pc' := 81) (i := 0) (j := 3) X dX8_nest_80 rfl rfl rfl ?_
        refine v_dup (pc' := 82) X dX8_nest_81 rfl rfl ?_
        refine fg_X8_47 (pc' := 85) X hi (v := nI e) ((congrFun (mI_n _ _ _ _ (by omega)) _).trans ((congrFun (mI_n _ _ _ _ (by omega)) _).trans ((congrFun (mI_n _ _ _ _ (by omega)) _).trans ((congrFun (mI_n _ _ _ _ (by omega)) _).trans hne)))) dX8_nest_82 rfl ?_
        refine v_iconst (pc' := 86) (v := 1) X dX8_nest_85 (by decide) rfl ?_
        refine v_iaddV (pc' := 87) (v := nI (e + 1)) X (nI_add (e) 1) dX8_nest_86 rfl ?_
        refine fp_X8_47 (pc' := 90) X hi dX8_nest_87 rfl ?_
        refine v_return X R (Nat.zero_le _) (Nat.zero_le _) dX8_nest_90 ?_
        exact ⟨rfl, rfl⟩
      -- not taken 51
      · have hj2 : j < 16 := by
          rcases Nat.lt_or_ge j 16 with q9 | q9
          · exact q9
          · exact absurd (nI_le q9 (by omega)) hc_51
        refine v_aload_n (pc' := 55) (i := 0) (j := 3) X dX8_nest_54 rfl rfl rfl ?_
        refine fg_X8_19 (pc' := 58) X hi dX8_nest_55 rfl ?_
        refine v_bipush (pc' := 60) (v := 16) X dX8_nest_58 (by decide) rfl ?_
        refine v_aload_n (pc' := 61) (i := 0) (j := 3) X dX8_nest_60 rfl rfl rfl ?_
        refine fg_X8_47 (pc' := 64) X hi (v := nI e) ((congrFun (mI_n _ _ _ _ (by omega)) _).trans ((congrFun (mI_n _ _ _ _ (by omega)) _).trans ((congrFun (mI_n _ _ _ _ (by omega)) _).trans ((congrFun (mI_n _ _ _ _ (by omega)) _).trans hne)))) dX8_nest_61 rfl ?_
        refine v_imulV (pc' := 65) (v := nI (16 * (e))) X (pk_mul 16 (e)) dX8_nest_64 rfl ?_
        refine v_iload_n (pc' := 66) (i := 3) (j := 0) X dX8_nest_65 rfl rfl rfl ?_
        refine v_iaddV (pc' := 67) (v := nI (16 * (e) + j)) X (nI_add (16 * (e)) (j)) dX8_nest_66 rfl ?_
        refine v_aload_n (pc' := 68) (i := 0) (j := 3) X dX8_nest_67 rfl rfl rfl ?_
        refine fg_X8_15 (pc' := 71) X hi dX8_nest_68 rfl ?_
        refine v_iload_n (pc' := 72) (i := 3) (j := 0) X dX8_nest_71 rfl rfl rfl ?_
        refine ag_T8 (pc' := 73) X hi (v := M.2 (tb i + 8) j) (j) rfl (by omega) (congrFun (mRL_n _ _ _ (by omega)) _) dX8_nest_72 rfl ?_
        refine as_T9 (pc' := 74) X hi (16 * (e) + j) rfl (by omega) dX8_nest_73 rfl ?_
        refine v_iinc (pc' := 77) (j := 0) (v := nI (j + 1)) (lv' := [(3, .int (nI (j + 1))), (1, .int kind), (2, .int to), (0, .ref (ad (tb i)))]) X dX8_nest_74 rfl (nI_add (j) 1) (by decide) rfl rfl ?_
        refine v_goto (pc' := 48) X dX8_nest_77 (by decide) ?_
        refine v_eqw (ws' := wM (kY K) n ad (mRL (mI (mI (mI (mI M (tb i + 11) e kind) (tb i + 12) e to) (tb i + 13) e (M.1 (tb i) 3)) (tb i + 14) e (M.1 (tb i) 6)) (tb i + 9) (vcp (M.2 (tb i + 8)) 0 (16 * e) (j + 1) (M.2 (tb i + 9))))) (by rw [mL_mRL, vcp_sLp]) ?_
        exact ih_hloop (j + 1) (by omega) (by omega)
  refine v_eqw (ws' := wM (kY K) n ad (mRL (mI (mI (mI (mI M (tb i + 11) e kind) (tb i + 12) e to) (tb i + 13) e (M.1 (tb i) 3)) (tb i + 14) e (M.1 (tb i) 6)) (tb i + 9) (vcp (M.2 (tb i + 8)) 0 (16 * e) 0 (M.2 (tb i + 9))))) (by rw [vcp_0]; exact (congrArg (pM _ _ _) (mRL_self _ _)).symm) ?_
  refine v_sub (lv' := [(3, .int 0), (1, .int kind), (2, .int to), (0, .ref (ad (tb i)))]) [0, 2, 3, 1] rfl ?_
  exact hloop _ 0 (Nat.lt_succ_self _) (by omega)
set_option maxHeartbeats 4000000 in
set_option maxRecDepth 100000 in
/-- rollBack(k) -/
theorem c_X8_rollBack {l : Launch} {D : va_G} {Y : Nat → ClassId} {z : Nat → Nat} {n : Nat} {ad : Nat → Nat} {M : vM} {i k : Nat} (hi : i < n) (hk : k < 24) : Ct l D Y z yX8_rollBack cX8_rollBack 2 none 1 22 [.ref (ad (tb i)), .int (nI k)] (wM Y n ad M) 0 0 (fun r w => r = none ∧ w = wM Y n ad (fRollBack M (tb i) k)) := by
  refine v_entry (by decide +kernel) (Nat.le_of_ble_eq_true rfl) ?_
  intro K X R hR hnm hl hD hY hz
  subst hl hD hY hz
  refine v_sub (lv' := [(0, .ref (ad (tb i))), (1, .int (nI k))]) [0, 1] rfl ?_
  refine v_aload_n (pc' := 1) (i := 0) (j := 0) X dX8_rollBack_0 rfl rfl rfl ?_
  refine v_iload_n (pc' := 2) (i := 1) (j := 1) X dX8_rollBack_1 rfl rfl rfl ?_
  refine v_callV (pc' := 5) X (st := []) (c_X8_restore (M := M) hi (k := k) (by omega)) k_X8_restore w_ml_X8_56 w_im_X8_restore w_se_X8_X8_restore (rv_T hi) (by rw [hR]; exact ⟨Nat.le_of_ble_eq_true rfl, Nat.le_of_ble_eq_true rfl⟩) rfl rfl (Nat.le_of_ble_eq_true rfl) dX8_rollBack_2 rfl (⟨Nat.zero_le _, Nat.zero_le _⟩) ?_
  rintro _ _ ⟨rfl, rfl⟩
  refine v_aload_n (pc' := 6) (i := 0) (j := 0) X dX8_rollBack_5 rfl rfl rfl ?_
  refine v_aload_n (pc' := 7) (i := 0) (j := 0) X dX8_rollBack_6 rfl rfl rfl ?_
  refine fg_X8_35 (pc' := 10) X hi dX8_rollBack_7 rfl ?_
  refine v_iload_n (pc' := 11) (i := 1) (j := 1) X dX8_rollBack_10 rfl rfl rfl ?_
  refine ag_T14 (pc' := 12) X hi (v := M.1 (tb i + 14) k) (k) rfl (by omega) (congrFun (mI_n _ _ _ _ (by omega)) _) dX8_rollBack_11 rfl ?_
  refine fp_X8_53 (pc' := 15) X hi dX8_rollBack_12 rfl ?_
  refine v_aload_n (pc' := 16) (i := 0) (j := 0) X dX8_rollBack_15 rfl rfl rfl ?_
  refine v_iload_n (pc' := 17) (i := 1) (j := 1) X dX8_rollBack_16 rfl rfl rfl ?_
  refine fp_X8_47 (pc' := 20) X hi dX8_rollBack_17 rfl ?_
  refine v_aload_n (pc' := 21) (i := 0) (j := 0) X dX8_rollBack_20 rfl rfl rfl ?_
  refine v_aload_n (pc' := 22) (i := 0) (j := 0) X dX8_rollBack_21 rfl rfl rfl ?_
  refine fg_X8_29 (pc' := 25) X hi dX8_rollBack_22 rfl ?_
  refine v_iload_n (pc' := 26) (i := 1) (j := 1) X dX8_rollBack_25 rfl rfl rfl ?_
  refine ag_T12 (pc' := 27) X hi (v := M.1 (tb i + 12) k) (k) rfl (by omega) ((congrFun (mI_n _ _ _ _ (by omega)) _).trans ((congrFun (mI_n _ _ _ _ (by omega)) _).trans (congrFun (mI_n _ _ _ _ (by omega)) _))) dX8_rollBack_26 rfl ?_
  refine fp_X8_60 (pc' := 30) X hi dX8_rollBack_27 rfl ?_
  refine v_return X R (Nat.zero_le _) (Nat.zero_le _) dX8_rollBack_30 ?_
  exact ⟨rfl, rfl⟩
set_option maxHeartbeats 4000000 in
set_option maxRecDepth 100000 in
/-- again(clock) -/
theorem c_X8_again {l : Launch} {D : va_G} {Y : Nat → ClassId} {z : Nat → Nat} {n : Nat} {ad : Nat → Nat} {M : vM} {i e k : Nat} (hi : i < n) (hne : M.1 (tb i) 4 = nI e) (he : e ≤ 24) (hk : k < e) (h0 : M.1 (tb i + 11) k = 0) (hfirst : ∀ j, j < k → M.1 (tb i + 11) j ≠ 0) {clock : Int32} : Ct l D Y z yX8_again cX8_again 3 none 1 22 [.ref (ad (tb i)), .int clock] (wM Y n ad M) 0 0 (fun r w => r = none ∧ w = wM Y n ad (fAgain M (tb i) k clock)) := by
  refine v_entry (by decide +kernel) (Nat.le_of_ble_eq_true rfl) ?_
  intro K X R hR hnm hl hD hY hz
  subst hl hD hY hz
  refine v_sub (lv' := [(0, .ref (ad (tb i))), (1, .int clock)]) [0, 1] rfl ?_
  refine v_aload_n (pc' := 1) (i := 0) (j := 0) X dX8_again_0 rfl rfl rfl ?_
  refine v_callV (pc' := 4) X (st := []) (c_X8_atomic (M := M) hi (e := e) hne (by omega)) k_X8_atomic w_ml_X8_63 w_im_X8_atomic w_se_X8_X8_atomic (rv_T hi) (by rw [hR]; exact ⟨Nat.le_of_ble_eq_true rfl, Nat.le_of_ble_eq_true rfl⟩) rfl rfl (Nat.le_of_ble_eq_true rfl) dX8_again_1 rfl (⟨Nat.zero_le _, Nat.zero_le _⟩) ?_
  rintro _ _ ⟨rfl, x9, rfl, hx9⟩
  obtain rfl := aAt_eq hx9 hk h0 hfirst
  refine v_istore_n (pc' := 5) (i := 2) (lv' := [(2, .int (nI k)), (0, .ref (ad (tb i))), (1, .int clock)]) X dX8_again_4 rfl (by decide) rfl rfl ?_
  refine v_aload_n (pc' := 6) (i := 0) (j := 1) X dX8_again_5 rfl rfl rfl ?_
  refine v_iload_n (pc' := 7) (i := 2) (j := 0) X dX8_again_6 rfl rfl rfl ?_
  refine v_callV (pc' := 10) X (st := []) (c_X8_restore (M := M) hi (k := k) (by omega)) k_X8_restore w_ml_X8_56 w_im_X8_restore w_se_X8_X8_restore (rv_T hi) (by rw [hR]; exact ⟨Nat.le_of_ble_eq_true rfl, Nat.le_of_ble_eq_true rfl⟩) rfl rfl (Nat.le_of_ble_eq_true rfl) dX8_again_7 rfl (⟨Nat.zero_le _, Nat.zero_le _⟩) ?_
  rintro _ _ ⟨rfl, rfl⟩
  refine v_aload_n (pc' := 11) (i := 0) (j := 1) X dX8_again_10 rfl rfl rfl ?_
  refine v_iload_n (pc' := 12) (i := 2) (j := 0) X dX8_again_11 rfl rfl rfl ?_
  refine v_iconst (pc' := 13) (v := 1) X dX8_again_12 (by decide) rfl ?_
  refine v_iaddV (pc' := 14) (v := nI (k + 1)) X (nI_add (k) 1) dX8_again_13 rfl ?_
  refine fp_X8_47 (pc' := 17) X hi dX8_again_14 rfl ?_
  refine v_aload_n (pc' := 18) (i := 0) (j := 1) X dX8_again_17 rfl rfl rfl ?_
  refine v_iconst (pc' := 19) (v := 0) X dX8_again_18 (by decide) rfl ?_
  refine fp_X8_67 (pc' := 22) X hi dX8_again_19 rfl ?_
  refine v_aload_n (pc' := 23) (i := 0) (j := 1) X dX8_again_22 rfl rfl rfl ?_
  refine v_iconst (pc' := 24) (v := 0) X dX8_again_23 (by decide) rfl ?_
  refine fp_X8_53 (pc' := 27) X hi dX8_again_24 rfl ?_
  refine v_aload_n (pc' := 28) (i := 0) (j := 1) X dX8_again_27 rfl rfl rfl ?_
  refine v_iload_n (pc' := 29) (i := 1) (j := 2) X dX8_again_28 rfl rfl rfl ?_
  refine fp_X8_70 (pc' := 32) X hi dX8_again_29 rfl ?_
  refine v_aload_n (pc' := 33) (i := 0) (j := 1) X dX8_again_32 rfl rfl rfl ?_
  refine v_aload_n (pc' := 34) (i := 0) (j := 1) X dX8_again_33 rfl rfl rfl ?_
  refine fg_X8_29 (pc' := 37) X hi dX8_again_34 rfl ?_
  refine v_iload_n (pc' := 38) (i := 2) (j := 0) X dX8_again_37 rfl rfl rfl ?_
  refine ag_T12 (pc' := 39) X hi (v := M.1 (tb i + 12) k) (k) rfl (by omega) ((congrFun (mI_n _ _ _ _ (by omega)) _).trans ((congrFun (mI_n _ _ _ _ (by omega)) _).trans ((congrFun (mI_n _ _ _ _ (by omega)) _).trans ((congrFun (mI_n _ _ _ _ (by omega)) _).trans (congrFun (mI_n _ _ _ _ (by omega)) _))))) dX8_again_38 rfl ?_
  refine fp_X8_60 (pc' := 42) X hi dX8_again_39 rfl ?_
  refine v_aload_n (pc' := 43) (i := 0) (j := 1) X dX8_again_42 rfl rfl rfl ?_
  refine v_iconst (pc' := 44) (v := 1) X dX8_again_43 (by decide) rfl ?_
  refine fp_X8_9 (pc' := 47) X hi dX8_again_44 rfl ?_
  refine v_return X R (Nat.zero_le _) (Nat.zero_le _) dX8_again_47 ?_
  exact ⟨rfl, rfl⟩
set_option maxHeartbeats 4000000 in
set_option maxRecDepth 100000 in
/-- end(how, why) -/
theorem c_X8_end {l : Launch} {D : va_G} {Y : Nat → ClassId} {z : Nat → Nat} {n : Nat} {ad : Nat → Nat} {M : vM} {i : Nat} (hi : i < n) {how why : Int32} : Ct l D Y z yX8_end cX8_end 3 none 0 0 [.ref (ad (tb i)), .int how, .int why] (wM Y n ad M) 0 0 (fun r w => r = none ∧ w = wM Y n ad (fEnd M (tb i) how why)) := by
  refine v_entry (by decide +kernel) (Nat.le_of_ble_eq_true rfl) ?_
  intro K X R hR hnm hl hD hY hz
  subst hl hD hY hz
  refine v_sub (lv' := [(0, .ref (ad (tb i))), (1, .int how), (2, .int why)]) [0, 1, 2] rfl ?_
  refine v_aload_n (pc' := 1) (i := 0) (j := 0) X dX8_end_0 rfl rfl rfl ?_
  refine v_iload_n (pc' := 2) (i := 1) (j := 1) X dX8_end_1 rfl rfl rfl ?_
  refine fp_X8_9 (pc' := 5) X hi dX8_end_2 rfl ?_
  refine v_aload_n (pc' := 6) (i := 0) (j := 0) X dX8_end_5 rfl rfl rfl ?_
  refine v_iload_n (pc' := 7) (i := 2) (j := 2) X dX8_end_6 rfl rfl rfl ?_
  refine fp_X8_73 (pc' := 10) X hi dX8_end_7 rfl ?_
  refine v_aload_n (pc' := 11) (i := 0) (j := 0) X dX8_end_10 rfl rfl rfl ?_
  refine v_iconst (pc' := 12) (v := 0) X dX8_end_11 (by decide) rfl ?_
  refine fp_X8_47 (pc' := 15) X hi dX8_end_12 rfl ?_
  refine v_aload_n (pc' := 16) (i := 0) (j := 0) X dX8_end_15 rfl rfl rfl ?_
  refine v_iconst (pc' := 17) (v := 0) X dX8_end_16 (by decide) rfl ?_
  refine fp_X8_67 (pc' := 20) X hi dX8_end_17 rfl ?_
  refine v_aload_n (pc' := 21) (i := 0) (j := 0) X dX8_end_20 rfl rfl rfl ?_
  refine v_iconst (pc' := 22) (v := 0) X dX8_end_21 (by decide) rfl ?_
  refine fp_X8_53 (pc' := 25) X hi dX8_end_22 rfl ?_
  refine v_return X R (Nat.zero_le _) (Nat.zero_le _) dX8_end_25 ?_
  exact ⟨rfl, rfl⟩
set_option maxHeartbeats 4000000 in
set_option maxRecDepth 100000 in
/-- hasRead(v) -/
theorem c_X8_hasRead {l : Launch} {D : va_G} {Y : Nat → ClassId} {z : Nat → Nat} {n : Nat} {ad : Nat → Nat} {M : vM} {i e : Nat} (hi : i < n) (hne : M.1 (tb i) 5 = nI e) (he : e ≤ 40) {v : Int64} : Ct l D Y z yX8_hasRead cX8_hasRead 4 (some FieldType.boolean) 0 0 [.ref (ad (tb i)), .long v] (wM Y n ad M) 0 0 (fun r w => w = wM Y n ad M ∧ ∃ x : Int32, r = some (.int x) ∧ aIn (M.2 (tb i + 15)) e v x) := by
  refine v_entry (by decide +kernel) (Nat.le_of_ble_eq_true rfl) ?_
  intro K X R hR hnm hl hD hY hz
  subst hl hD hY hz
  refine v_sub (lv' := [(0, .ref (ad (tb i))), (1, .long v)]) [0, 1] rfl ?_
  refine v_iconst (pc' := 1) (v := 0) X dX8_hasRead_0 (by decide) rfl ?_
  refine v_istore_n (pc' := 2) (i := 3) (lv' := [(3, .int 0), (0, .ref (ad (tb i))), (1, .long v)]) X dX8_hasRead_1 rfl (by decide) rfl rfl ?_
  have hloop : ∀ (dd_hloop : Nat) (k : Nat), e - k < dd_hloop → (k ≤ e) → (∀ j, j < k → M.2 (tb i + 15) j ≠ v) → V K 4 (wM (kY K) n ad M) 0 0 2 [(3, .int (nI k)), (1, .long v), (0, .ref (ad (tb i)))] [] := by
    intro dd_hloop
    induction dd_hloop with
    | zero => intro k hlt_hloop; exact absurd hlt_hloop (Nat.not_lt_zero _)
    | succ dd_hloop ih_hloop =>
      intro k hlt_hloop hk hno
      refine v_iload_n (pc' := 3) (i := 3) (j := 0) X dX8_hasRead_2 rfl rfl rfl ?_
      refine v_aload_n (pc' := 4) (i := 0) (j := 2) X dX8_hasRead_3 rfl rfl rfl ?_
      refine fg_X8_67 (pc' := 7) X hi (v := nI e) hne dX8_hasRead_4 rfl ?_
      refine v_icmp_ge (pc' := 10) (tgt := 29) X dX8_hasRead_7 (by decide) rfl (fun hc_7 => ?_) (fun hc_7 => ?_)
      -- taken 7
      · refine v_iconst (pc' := 30) (v := 0) X dX8_hasRead_29 (by decide) rfl ?_
        refine v_zreturn X R (by decide) (Nat.zero_le _) (Nat.zero_le _) dX8_hasRead_30 ?_
        exact ⟨rfl, _, rfl, Or.inr ⟨rfl, fun j hj => hno j (by have hh := le_of_nI hc_7 (by omega) (by omega); omega)⟩⟩
      -- not taken 7
      · have hke : k < e := by
          rcases Nat.lt_or_ge k e with q9 | q9
          · exact q9
          · exact absurd (nI_le q9 (by omega)) hc_7
        refine v_aload_n (pc' := 11) (i := 0) (j := 2) X dX8_hasRead_10 rfl rfl rfl ?_
        refine fg_X8_38 (pc' := 14) X hi dX8_hasRead_11 rfl ?_
        refine v_iload_n (pc' := 15) (i := 3) (j := 0) X dX8_hasRead_14 rfl rfl rfl ?_
        refine ag_T15 (pc' := 16) X hi (v := M.2 (tb i + 15) k) (k) rfl (by omega) rfl dX8_hasRead_15 rfl ?_
        refine v_lload_n (pc' := 17) (i := 1) (j := 1) X dX8_hasRead_16 rfl rfl rfl ?_
        refine v_lcmp (pc' := 18) X dX8_hasRead_17 rfl ?_
        refine v_if_ne (pc' := 21) (tgt := 23) X dX8_hasRead_18 (by decide) rfl (fun hc_18 => ?_) (fun hc_18 => ?_)
        -- taken 18
        · refine v_iinc (pc' := 26) (j := 0) (v := nI (k + 1)) (lv' := [(3, .int (nI (k + 1))), (1, .long v), (0, .ref (ad (tb i)))]) X dX8_hasRead_23 rfl (nI_add (k) 1) (by decide) rfl rfl ?_
          refine v_goto (pc' := 2) X dX8_hasRead_26 (by decide) ?_
          exact ih_hloop (k + 1) (by omega) (by omega) (lt_s hno (fun z9 => hc_18 ((lg_cmp_eq _ _).mpr z9)))
        -- not taken 18
        · refine v_iconst (pc' := 22) (v := 1) X dX8_hasRead_21 (by decide) rfl ?_
          refine v_zreturn X R (by decide) (Nat.zero_le _) (Nat.zero_le _) dX8_hasRead_22 ?_
          exact ⟨rfl, _, rfl, Or.inl ⟨rfl, k, hke, (lg_cmp_eq _ _).mp hc_18⟩⟩
  refine v_sub (lv' := [(3, .int 0), (1, .long v), (0, .ref (ad (tb i)))]) [0, 2, 1] rfl ?_
  exact hloop _ 0 (Nat.lt_succ_self _) (by omega) lt_0
end
