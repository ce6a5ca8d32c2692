section
-- ===== PART A: goes FIRST, ahead of the names: the tables' words, and 'selects' of the private methods out of them =====
/-- a private method of a class that the tables say can be made, by its rows of tables_1 -/
def lw_okq (q : MethodName × Nat) : Prop := (q.1.cls ≠ "java/lang/invoke/MethodHandle" ∧ q.1.cls ≠ "java/lang/invoke/VarHandle") ∧ Cond.instantiable q.1.cls q.2 ∈ tables_1 ∧ Cond.privateMethod q.1 ∈ tables_1 ∧ Cond.instanceMethod q.1 ∈ tables_1
theorem lw_p0 : lw_okq (⟨"TypeBench$Printer", "lengthOf", "(I)I"⟩, 6) := ⟨⟨by decide +kernel, by decide +kernel⟩, List.mem_of_getElem? (i := 171) (by decide +kernel), List.mem_of_getElem? (i := 230) (by decide +kernel), List.mem_of_getElem? (i := 231) (by decide +kernel)⟩
theorem lw_p1 : lw_okq (⟨"java/lang/Throwable", "fillInStackTrace", "(I)Ljava/lang/Throwable;"⟩, 6) := ⟨⟨by decide +kernel, by decide +kernel⟩, List.mem_of_getElem? (i := 301) (by decide +kernel), List.mem_of_getElem? (i := 299) (by decide +kernel), List.mem_of_getElem? (i := 300) (by decide +kernel)⟩
theorem lw_p2 : lw_okq (⟨"TypeBench", "startText", "()V"⟩, 7) := ⟨⟨by decide +kernel, by decide +kernel⟩, List.mem_of_getElem? (i := 18) (by decide +kernel), List.mem_of_getElem? (i := 355) (by decide +kernel), List.mem_of_getElem? (i := 356) (by decide +kernel)⟩
theorem lw_p3 : lw_okq (⟨"TypeBench$Reader", "term", "(I)I"⟩, 9) := ⟨⟨by decide +kernel, by decide +kernel⟩, List.mem_of_getElem? (i := 53) (by decide +kernel), List.mem_of_getElem? (i := 393) (by decide +kernel), List.mem_of_getElem? (i := 394) (by decide +kernel)⟩
theorem lw_p4 : lw_okq (⟨"TypeBench$Reader", "termAtom", "(I)I"⟩, 9) := ⟨⟨by decide +kernel, by decide +kernel⟩, List.mem_of_getElem? (i := 53) (by decide +kernel), List.mem_of_getElem? (i := 397) (by decide +kernel), List.mem_of_getElem? (i := 398) (by decide +kernel)⟩
theorem lw_p5 : lw_okq (⟨"TypeBench$Reader", "peek", "()I"⟩, 9) := ⟨⟨by decide +kernel, by decide +kernel⟩, List.mem_of_getElem? (i := 53) (by decide +kernel), List.mem_of_getElem? (i := 401) (by decide +kernel), List.mem_of_getElem? (i := 402) (by decide +kernel)⟩
theorem lw_p6 : lw_okq (⟨"TypeBench$Reader", "refuse", "()I"⟩, 9) := ⟨⟨by decide +kernel, by decide +kernel⟩, List.mem_of_getElem? (i := 53) (by decide +kernel), List.mem_of_getElem? (i := 405) (by decide +kernel), List.mem_of_getElem? (i := 406) (by decide +kernel)⟩
theorem lw_p7 : lw_okq (⟨"TypeBench$Reader", "abstraction", "(I)I"⟩, 9) := ⟨⟨by decide +kernel, by decide +kernel⟩, List.mem_of_getElem? (i := 53) (by decide +kernel), List.mem_of_getElem? (i := 410) (by decide +kernel), List.mem_of_getElem? (i := 411) (by decide +kernel)⟩
theorem lw_p8 : lw_okq (⟨"TypeBench$Reader", "letterAndPoint", "()I"⟩, 9) := ⟨⟨by decide +kernel, by decide +kernel⟩, List.mem_of_getElem? (i := 53) (by decide +kernel), List.mem_of_getElem? (i := 414) (by decide +kernel), List.mem_of_getElem? (i := 415) (by decide +kernel)⟩
theorem lw_p9 : lw_okq (⟨"TypeBench$Reader", "take", "(I)Z"⟩, 9) := ⟨⟨by decide +kernel, by decide +kernel⟩, List.mem_of_getElem? (i := 53) (by decide +kernel), List.mem_of_getElem? (i := 421) (by decide +kernel), List.mem_of_getElem? (i := 422) (by decide +kernel)⟩
theorem lw_p10 : lw_okq (⟨"TypeBench$Reader", "termInBrackets", "(I)I"⟩, 9) := ⟨⟨by decide +kernel, by decide +kernel⟩, List.mem_of_getElem? (i := 53) (by decide +kernel), List.mem_of_getElem? (i := 425) (by decide +kernel), List.mem_of_getElem? (i := 426) (by decide +kernel)⟩
theorem lw_p11 : lw_okq (⟨"TypeBench$Reader", "type", "(I)I"⟩, 9) := ⟨⟨by decide +kernel, by decide +kernel⟩, List.mem_of_getElem? (i := 53) (by decide +kernel), List.mem_of_getElem? (i := 429) (by decide +kernel), List.mem_of_getElem? (i := 430) (by decide +kernel)⟩
theorem lw_p12 : lw_okq (⟨"TypeBench$Reader", "typeAtom", "(I)I"⟩, 9) := ⟨⟨by decide +kernel, by decide +kernel⟩, List.mem_of_getElem? (i := 53) (by decide +kernel), List.mem_of_getElem? (i := 433) (by decide +kernel), List.mem_of_getElem? (i := 434) (by decide +kernel)⟩
theorem lw_p13 : lw_okq (⟨"TypeBench$Reader", "forAll", "(I)I"⟩, 9) := ⟨⟨by decide +kernel, by decide +kernel⟩, List.mem_of_getElem? (i := 53) (by decide +kernel), List.mem_of_getElem? (i := 437) (by decide +kernel), List.mem_of_getElem? (i := 438) (by decide +kernel)⟩
theorem lw_p14 : lw_okq (⟨"TypeBench$Reader", "typeInBrackets", "(I)I"⟩, 9) := ⟨⟨by decide +kernel, by decide +kernel⟩, List.mem_of_getElem? (i := 53) (by decide +kernel), List.mem_of_getElem? (i := 449) (by decide +kernel), List.mem_of_getElem? (i := 450) (by decide +kernel)⟩
theorem lw_p15 : lw_okq (⟨"TypeBench$Reader", "closed", "(I)I"⟩, 9) := ⟨⟨by decide +kernel, by decide +kernel⟩, List.mem_of_getElem? (i := 53) (by decide +kernel), List.mem_of_getElem? (i := 453) (by decide +kernel), List.mem_of_getElem? (i := 454) (by decide +kernel)⟩
def lw_privs_1 : List (MethodName × Nat) := [(⟨"TypeBench$Printer", "lengthOf", "(I)I"⟩, 6), (⟨"java/lang/Throwable", "fillInStackTrace", "(I)Ljava/lang/Throwable;"⟩, 6), (⟨"TypeBench", "startText", "()V"⟩, 7), (⟨"TypeBench$Reader", "term", "(I)I"⟩, 9), (⟨"TypeBench$Reader", "termAtom", "(I)I"⟩, 9), (⟨"TypeBench$Reader", "peek", "()I"⟩, 9), (⟨"TypeBench$Reader", "refuse", "()I"⟩, 9), (⟨"TypeBench$Reader", "abstraction", "(I)I"⟩, 9), (⟨"TypeBench$Reader", "letterAndPoint", "()I"⟩, 9), (⟨"TypeBench$Reader", "take", "(I)Z"⟩, 9), (⟨"TypeBench$Reader", "termInBrackets", "(I)I"⟩, 9), (⟨"TypeBench$Reader", "type", "(I)I"⟩, 9), (⟨"TypeBench$Reader", "typeAtom", "(I)I"⟩, 9), (⟨"TypeBench$Reader", "forAll", "(I)I"⟩, 9), (⟨"TypeBench$Reader", "typeInBrackets", "(I)I"⟩, 9), (⟨"TypeBench$Reader", "closed", "(I)I"⟩, 9)]
theorem lw_r1 : ∀ q ∈ lw_privs_1, lw_okq q := List.forall_mem_cons.mpr ⟨lw_p0, List.forall_mem_cons.mpr ⟨lw_p1, List.forall_mem_cons.mpr ⟨lw_p2, List.forall_mem_cons.mpr ⟨lw_p3, List.forall_mem_cons.mpr ⟨lw_p4, List.forall_mem_cons.mpr ⟨lw_p5, List.forall_mem_cons.mpr ⟨lw_p6, List.forall_mem_cons.mpr ⟨lw_p7, List.forall_mem_cons.mpr ⟨lw_p8, List.forall_mem_cons.mpr ⟨lw_p9, List.forall_mem_cons.mpr ⟨lw_p10, List.forall_mem_cons.mpr ⟨lw_p11, List.forall_mem_cons.mpr ⟨lw_p12, List.forall_mem_cons.mpr ⟨lw_p13, List.forall_mem_cons.mpr ⟨lw_p14, List.forall_mem_cons.mpr ⟨lw_p15, fun _ h => absurd h List.not_mem_nil⟩⟩⟩⟩⟩⟩⟩⟩⟩⟩⟩⟩⟩⟩⟩⟩
theorem lw_p16 : lw_okq (⟨"TypeBench$Reader", "typeLetter", "(I)I"⟩, 9) := ⟨⟨by decide +kernel, by decide +kernel⟩, List.mem_of_getElem? (i := 53) (by decide +kernel), List.mem_of_getElem? (i := 457) (by decide +kernel), List.mem_of_getElem? (i := 458) (by decide +kernel)⟩
theorem lw_p17 : lw_okq (⟨"TypeBench$Judge", "put", "(III)V"⟩, 11) := ⟨⟨by decide +kernel, by decide +kernel⟩, List.mem_of_getElem? (i := 87) (by decide +kernel), List.mem_of_getElem? (i := 481) (by decide +kernel), List.mem_of_getElem? (i := 482) (by decide +kernel)⟩
theorem lw_p18 : lw_okq (⟨"TypeBench$Judge", "step", "(III)V"⟩, 11) := ⟨⟨by decide +kernel, by decide +kernel⟩, List.mem_of_getElem? (i := 87) (by decide +kernel), List.mem_of_getElem? (i := 490) (by decide +kernel), List.mem_of_getElem? (i := 491) (by decide +kernel)⟩
theorem lw_p19 : lw_okq (⟨"TypeBench$Judge", "check", "(II)V"⟩, 11) := ⟨⟨by decide +kernel, by decide +kernel⟩, List.mem_of_getElem? (i := 87) (by decide +kernel), List.mem_of_getElem? (i := 498) (by decide +kernel), List.mem_of_getElem? (i := 499) (by decide +kernel)⟩
theorem lw_p20 : lw_okq (⟨"TypeBench$Judge", "newBehind", "(I)I"⟩, 11) := ⟨⟨by decide +kernel, by decide +kernel⟩, List.mem_of_getElem? (i := 87) (by decide +kernel), List.mem_of_getElem? (i := 506) (by decide +kernel), List.mem_of_getElem? (i := 507) (by decide +kernel)⟩
theorem lw_p21 : lw_okq (⟨"TypeBench$Nodes", "replaced", "(IIII)I"⟩, 6) := ⟨⟨by decide +kernel, by decide +kernel⟩, List.mem_of_getElem? (i := 26) (by decide +kernel), List.mem_of_getElem? (i := 525) (by decide +kernel), List.mem_of_getElem? (i := 526) (by decide +kernel)⟩
theorem lw_p22 : lw_okq (⟨"TypeBench$Judge", "bind", "(II)I"⟩, 11) := ⟨⟨by decide +kernel, by decide +kernel⟩, List.mem_of_getElem? (i := 87) (by decide +kernel), List.mem_of_getElem? (i := 536) (by decide +kernel), List.mem_of_getElem? (i := 537) (by decide +kernel)⟩
theorem lw_p23 : lw_okq (⟨"TypeBench$Judge", "find", "(I)V"⟩, 11) := ⟨⟨by decide +kernel, by decide +kernel⟩, List.mem_of_getElem? (i := 87) (by decide +kernel), List.mem_of_getElem? (i := 540) (by decide +kernel), List.mem_of_getElem? (i := 541) (by decide +kernel)⟩
theorem lw_p24 : lw_okq (⟨"TypeBench$Judge", "findAbstraction", "(I)V"⟩, 11) := ⟨⟨by decide +kernel, by decide +kernel⟩, List.mem_of_getElem? (i := 87) (by decide +kernel), List.mem_of_getElem? (i := 551) (by decide +kernel), List.mem_of_getElem? (i := 552) (by decide +kernel)⟩
theorem lw_p25 : lw_okq (⟨"TypeBench$Judge", "newUnknown", "()I"⟩, 11) := ⟨⟨by decide +kernel, by decide +kernel⟩, List.mem_of_getElem? (i := 87) (by decide +kernel), List.mem_of_getElem? (i := 555) (by decide +kernel), List.mem_of_getElem? (i := 556) (by decide +kernel)⟩
theorem lw_p26 : lw_okq (⟨"TypeBench$Judge", "apply", "(II)V"⟩, 11) := ⟨⟨by decide +kernel, by decide +kernel⟩, List.mem_of_getElem? (i := 87) (by decide +kernel), List.mem_of_getElem? (i := 560) (by decide +kernel), List.mem_of_getElem? (i := 561) (by decide +kernel)⟩
theorem lw_p27 : lw_okq (⟨"TypeBench$Judge", "split", "(I)I"⟩, 11) := ⟨⟨by decide +kernel, by decide +kernel⟩, List.mem_of_getElem? (i := 87) (by decide +kernel), List.mem_of_getElem? (i := 564) (by decide +kernel), List.mem_of_getElem? (i := 565) (by decide +kernel)⟩
theorem lw_p28 : lw_okq (⟨"TypeBench$Context", "placeOf", "(I)I"⟩, 4) := ⟨⟨by decide +kernel, by decide +kernel⟩, List.mem_of_getElem? (i := 93) (by decide +kernel), List.mem_of_getElem? (i := 572) (by decide +kernel), List.mem_of_getElem? (i := 573) (by decide +kernel)⟩
theorem lw_p29 : lw_okq (⟨"TypeBench$Judge", "solve", "(II)V"⟩, 11) := ⟨⟨by decide +kernel, by decide +kernel⟩, List.mem_of_getElem? (i := 87) (by decide +kernel), List.mem_of_getElem? (i := 577) (by decide +kernel), List.mem_of_getElem? (i := 578) (by decide +kernel)⟩
theorem lw_p30 : lw_okq (⟨"TypeBench$Judge", "applyArrow", "(II)V"⟩, 11) := ⟨⟨by decide +kernel, by decide +kernel⟩, List.mem_of_getElem? (i := 87) (by decide +kernel), List.mem_of_getElem? (i := 585) (by decide +kernel), List.mem_of_getElem? (i := 586) (by decide +kernel)⟩
theorem lw_p31 : lw_okq (⟨"TypeBench$Judge", "compare", "(II)V"⟩, 11) := ⟨⟨by decide +kernel, by decide +kernel⟩, List.mem_of_getElem? (i := 87) (by decide +kernel), List.mem_of_getElem? (i := 589) (by decide +kernel), List.mem_of_getElem? (i := 590) (by decide +kernel)⟩
def lw_privs_2 : List (MethodName × Nat) := [(⟨"TypeBench$Reader", "typeLetter", "(I)I"⟩, 9), (⟨"TypeBench$Judge", "put", "(III)V"⟩, 11), (⟨"TypeBench$Judge", "step", "(III)V"⟩, 11), (⟨"TypeBench$Judge", "check", "(II)V"⟩, 11), (⟨"TypeBench$Judge", "newBehind", "(I)I"⟩, 11), (⟨"TypeBench$Nodes", "replaced", "(IIII)I"⟩, 6), (⟨"TypeBench$Judge", "bind", "(II)I"⟩, 11), (⟨"TypeBench$Judge", "find", "(I)V"⟩, 11), (⟨"TypeBench$Judge", "findAbstraction", "(I)V"⟩, 11), (⟨"TypeBench$Judge", "newUnknown", "()I"⟩, 11), (⟨"TypeBench$Judge", "apply", "(II)V"⟩, 11), (⟨"TypeBench$Judge", "split", "(I)I"⟩, 11), (⟨"TypeBench$Context", "placeOf", "(I)I"⟩, 4), (⟨"TypeBench$Judge", "solve", "(II)V"⟩, 11), (⟨"TypeBench$Judge", "applyArrow", "(II)V"⟩, 11), (⟨"TypeBench$Judge", "compare", "(II)V"⟩, 11)]
theorem lw_r2 : ∀ q ∈ lw_privs_2, lw_okq q := List.forall_mem_cons.mpr ⟨lw_p16, List.forall_mem_cons.mpr ⟨lw_p17, List.forall_mem_cons.mpr ⟨lw_p18, List.forall_mem_cons.mpr ⟨lw_p19, List.forall_mem_cons.mpr ⟨lw_p20, List.forall_mem_cons.mpr ⟨lw_p21, List.forall_mem_cons.mpr ⟨lw_p22, List.forall_mem_cons.mpr ⟨lw_p23, List.forall_mem_cons.mpr ⟨lw_p24, List.forall_mem_cons.mpr ⟨lw_p25, List.forall_mem_cons.mpr ⟨lw_p26, List.forall_mem_cons.mpr ⟨lw_p27, List.forall_mem_cons.mpr ⟨lw_p28, List.forall_mem_cons.mpr ⟨lw_p29, List.forall_mem_cons.mpr ⟨lw_p30, List.forall_mem_cons.mpr ⟨lw_p31, fun _ h => absurd h List.not_mem_nil⟩⟩⟩⟩⟩⟩⟩⟩⟩⟩⟩⟩⟩⟩⟩⟩
theorem lw_p32 : lw_okq (⟨"TypeBench$Search", "start", "(I)V"⟩, 6) := ⟨⟨by decide +kernel, by decide +kernel⟩, List.mem_of_getElem? (i := 112) (by decide +kernel), List.mem_of_getElem? (i := 601) (by decide +kernel), List.mem_of_getElem? (i := 602) (by decide +kernel)⟩
theorem lw_p33 : lw_okq (⟨"TypeBench$Search", "await", "(I)V"⟩, 6) := ⟨⟨by decide +kernel, by decide +kernel⟩, List.mem_of_getElem? (i := 112) (by decide +kernel), List.mem_of_getElem? (i := 605) (by decide +kernel), List.mem_of_getElem? (i := 606) (by decide +kernel)⟩
theorem lw_p34 : lw_okq (⟨"TypeBench$Search", "nextNode", "()I"⟩, 6) := ⟨⟨by decide +kernel, by decide +kernel⟩, List.mem_of_getElem? (i := 112) (by decide +kernel), List.mem_of_getElem? (i := 611) (by decide +kernel), List.mem_of_getElem? (i := 612) (by decide +kernel)⟩
theorem lw_p35 : lw_okq (⟨"TypeBench$Judge", "set", "(III)V"⟩, 11) := ⟨⟨by decide +kernel, by decide +kernel⟩, List.mem_of_getElem? (i := 87) (by decide +kernel), List.mem_of_getElem? (i := 618) (by decide +kernel), List.mem_of_getElem? (i := 619) (by decide +kernel)⟩
theorem lw_p36 : lw_okq (⟨"TypeBench$Printer", "descend", "(I)V"⟩, 6) := ⟨⟨by decide +kernel, by decide +kernel⟩, List.mem_of_getElem? (i := 171) (by decide +kernel), List.mem_of_getElem? (i := 645) (by decide +kernel), List.mem_of_getElem? (i := 646) (by decide +kernel)⟩
theorem lw_p37 : lw_okq (⟨"TypeBench$Printer", "measure", "(I)V"⟩, 6) := ⟨⟨by decide +kernel, by decide +kernel⟩, List.mem_of_getElem? (i := 171) (by decide +kernel), List.mem_of_getElem? (i := 649) (by decide +kernel), List.mem_of_getElem? (i := 650) (by decide +kernel)⟩
theorem lw_p38 : lw_okq (⟨"TypeBench$Printer", "nameUnknown", "(I)V"⟩, 6) := ⟨⟨by decide +kernel, by decide +kernel⟩, List.mem_of_getElem? (i := 171) (by decide +kernel), List.mem_of_getElem? (i := 660) (by decide +kernel), List.mem_of_getElem? (i := 661) (by decide +kernel)⟩
theorem lw_p39 : lw_okq (⟨"TypeBench$Printer", "sign", "(I)I"⟩, 6) := ⟨⟨by decide +kernel, by decide +kernel⟩, List.mem_of_getElem? (i := 171) (by decide +kernel), List.mem_of_getElem? (i := 716) (by decide +kernel), List.mem_of_getElem? (i := 717) (by decide +kernel)⟩
theorem lw_p40 : lw_okq (⟨"TypeBenchModel", "throwing", "(ZZ)Z"⟩, 39) := ⟨⟨by decide +kernel, by decide +kernel⟩, List.mem_of_getElem? (i := 721) (by decide +kernel), List.mem_of_getElem? (i := 854) (by decide +kernel), List.mem_of_getElem? (i := 855) (by decide +kernel)⟩
theorem lw_p41 : lw_okq (⟨"TypeBenchModel", "begin", "()V"⟩, 39) := ⟨⟨by decide +kernel, by decide +kernel⟩, List.mem_of_getElem? (i := 721) (by decide +kernel), List.mem_of_getElem? (i := 862) (by decide +kernel), List.mem_of_getElem? (i := 863) (by decide +kernel)⟩
theorem lw_p42 : lw_okq (⟨"TypeBenchModel", "readTerm", "()I"⟩, 39) := ⟨⟨by decide +kernel, by decide +kernel⟩, List.mem_of_getElem? (i := 721) (by decide +kernel), List.mem_of_getElem? (i := 866) (by decide +kernel), List.mem_of_getElem? (i := 867) (by decide +kernel)⟩
theorem lw_p43 : lw_okq (⟨"TypeBenchModel", "open", "(III)V"⟩, 39) := ⟨⟨by decide +kernel, by decide +kernel⟩, List.mem_of_getElem? (i := 721) (by decide +kernel), List.mem_of_getElem? (i := 870) (by decide +kernel), List.mem_of_getElem? (i := 871) (by decide +kernel)⟩
theorem lw_p44 : lw_okq (⟨"TypeBenchModel", "see", "()I"⟩, 39) := ⟨⟨by decide +kernel, by decide +kernel⟩, List.mem_of_getElem? (i := 721) (by decide +kernel), List.mem_of_getElem? (i := 874) (by decide +kernel), List.mem_of_getElem? (i := 875) (by decide +kernel)⟩
theorem lw_p45 : lw_okq (⟨"TypeBenchModel", "term", "(III)I"⟩, 39) := ⟨⟨by decide +kernel, by decide +kernel⟩, List.mem_of_getElem? (i := 721) (by decide +kernel), List.mem_of_getElem? (i := 878) (by decide +kernel), List.mem_of_getElem? (i := 879) (by decide +kernel)⟩
theorem lw_p46 : lw_okq (⟨"TypeBenchModel", "binder", "(II)I"⟩, 39) := ⟨⟨by decide +kernel, by decide +kernel⟩, List.mem_of_getElem? (i := 721) (by decide +kernel), List.mem_of_getElem? (i := 885) (by decide +kernel), List.mem_of_getElem? (i := 886) (by decide +kernel)⟩
theorem lw_p47 : lw_okq (⟨"TypeBenchModel", "fail", "()V"⟩, 39) := ⟨⟨by decide +kernel, by decide +kernel⟩, List.mem_of_getElem? (i := 721) (by decide +kernel), List.mem_of_getElem? (i := 889) (by decide +kernel), List.mem_of_getElem? (i := 890) (by decide +kernel)⟩
def lw_privs_3 : List (MethodName × Nat) := [(⟨"TypeBench$Search", "start", "(I)V"⟩, 6), (⟨"TypeBench$Search", "await", "(I)V"⟩, 6), (⟨"TypeBench$Search", "nextNode", "()I"⟩, 6), (⟨"TypeBench$Judge", "set", "(III)V"⟩, 11), (⟨"TypeBench$Printer", "descend", "(I)V"⟩, 6), (⟨"TypeBench$Printer", "measure", "(I)V"⟩, 6), (⟨"TypeBench$Printer", "nameUnknown", "(I)V"⟩, 6), (⟨"TypeBench$Printer", "sign", "(I)I"⟩, 6), (⟨"TypeBenchModel", "throwing", "(ZZ)Z"⟩, 39), (⟨"TypeBenchModel", "begin", "()V"⟩, 39), (⟨"TypeBenchModel", "readTerm", "()I"⟩, 39), (⟨"TypeBenchModel", "open", "(III)V"⟩, 39), (⟨"TypeBenchModel", "see", "()I"⟩, 39), (⟨"TypeBenchModel", "term", "(III)I"⟩, 39), (⟨"TypeBenchModel", "binder", "(II)I"⟩, 39), (⟨"TypeBenchModel", "fail", "()V"⟩, 39)]
theorem lw_r3 : ∀ q ∈ lw_privs_3, lw_okq q := List.forall_mem_cons.mpr ⟨lw_p32, List.forall_mem_cons.mpr ⟨lw_p33, List.forall_mem_cons.mpr ⟨lw_p34, List.forall_mem_cons.mpr ⟨lw_p35, List.forall_mem_cons.mpr ⟨lw_p36, List.forall_mem_cons.mpr ⟨lw_p37, List.forall_mem_cons.mpr ⟨lw_p38, List.forall_mem_cons.mpr ⟨lw_p39, List.forall_mem_cons.mpr ⟨lw_p40, List.forall_mem_cons.mpr ⟨lw_p41, List.forall_mem_cons.mpr ⟨lw_p42, List.forall_mem_cons.mpr ⟨lw_p43, List.forall_mem_cons.mpr ⟨lw_p44, List.forall_mem_cons.mpr ⟨lw_p45, List.forall_mem_cons.mpr ⟨lw_p46, List.forall_mem_cons.mpr ⟨lw_p47, fun _ h => absurd h List.not_mem_nil⟩⟩⟩⟩⟩⟩⟩⟩⟩⟩⟩⟩⟩⟩⟩⟩
theorem lw_p48 : lw_okq (⟨"TypeBenchModel", "bind", "()I"⟩, 39) := ⟨⟨by decide +kernel, by decide +kernel⟩, List.mem_of_getElem? (i := 721) (by decide +kernel), List.mem_of_getElem? (i := 893) (by decide +kernel), List.mem_of_getElem? (i := 894) (by decide +kernel)⟩
theorem lw_p49 : lw_okq (⟨"TypeBenchModel", "bracket", "()Z"⟩, 39) := ⟨⟨by decide +kernel, by decide +kernel⟩, List.mem_of_getElem? (i := 721) (by decide +kernel), List.mem_of_getElem? (i := 897) (by decide +kernel), List.mem_of_getElem? (i := 898) (by decide +kernel)⟩
theorem lw_p50 : lw_okq (⟨"TypeBenchModel", "readType", "()I"⟩, 39) := ⟨⟨by decide +kernel, by decide +kernel⟩, List.mem_of_getElem? (i := 721) (by decide +kernel), List.mem_of_getElem? (i := 901) (by decide +kernel), List.mem_of_getElem? (i := 902) (by decide +kernel)⟩
theorem lw_p51 : lw_okq (⟨"TypeBenchModel", "type", "(III)I"⟩, 39) := ⟨⟨by decide +kernel, by decide +kernel⟩, List.mem_of_getElem? (i := 721) (by decide +kernel), List.mem_of_getElem? (i := 905) (by decide +kernel), List.mem_of_getElem? (i := 906) (by decide +kernel)⟩
theorem lw_p52 : lw_okq (⟨"TypeBenchModel", "push", "(III)V"⟩, 39) := ⟨⟨by decide +kernel, by decide +kernel⟩, List.mem_of_getElem? (i := 721) (by decide +kernel), List.mem_of_getElem? (i := 909) (by decide +kernel), List.mem_of_getElem? (i := 910) (by decide +kernel)⟩
theorem lw_p53 : lw_okq (⟨"TypeBenchModel", "run", "()V"⟩, 39) := ⟨⟨by decide +kernel, by decide +kernel⟩, List.mem_of_getElem? (i := 721) (by decide +kernel), List.mem_of_getElem? (i := 913) (by decide +kernel), List.mem_of_getElem? (i := 914) (by decide +kernel)⟩
theorem lw_p54 : lw_okq (⟨"TypeBenchModel", "compare", "(II)V"⟩, 39) := ⟨⟨by decide +kernel, by decide +kernel⟩, List.mem_of_getElem? (i := 721) (by decide +kernel), List.mem_of_getElem? (i := 917) (by decide +kernel), List.mem_of_getElem? (i := 918) (by decide +kernel)⟩
theorem lw_p55 : lw_okq (⟨"TypeBenchModel", "seen", "(I)I"⟩, 39) := ⟨⟨by decide +kernel, by decide +kernel⟩, List.mem_of_getElem? (i := 721) (by decide +kernel), List.mem_of_getElem? (i := 921) (by decide +kernel), List.mem_of_getElem? (i := 922) (by decide +kernel)⟩
theorem lw_p56 : lw_okq (⟨"TypeBenchModel", "withVariable", "(I)I"⟩, 39) := ⟨⟨by decide +kernel, by decide +kernel⟩, List.mem_of_getElem? (i := 721) (by decide +kernel), List.mem_of_getElem? (i := 925) (by decide +kernel), List.mem_of_getElem? (i := 926) (by decide +kernel)⟩
theorem lw_p57 : lw_okq (⟨"TypeBenchModel", "add", "(III)V"⟩, 39) := ⟨⟨by decide +kernel, by decide +kernel⟩, List.mem_of_getElem? (i := 721) (by decide +kernel), List.mem_of_getElem? (i := 929) (by decide +kernel), List.mem_of_getElem? (i := 930) (by decide +kernel)⟩
theorem lw_p58 : lw_okq (⟨"TypeBenchModel", "rest", "(II)I"⟩, 39) := ⟨⟨by decide +kernel, by decide +kernel⟩, List.mem_of_getElem? (i := 721) (by decide +kernel), List.mem_of_getElem? (i := 933) (by decide +kernel), List.mem_of_getElem? (i := 934) (by decide +kernel)⟩
theorem lw_p59 : lw_okq (⟨"TypeBenchModel", "withUnknown", "(I)I"⟩, 39) := ⟨⟨by decide +kernel, by decide +kernel⟩, List.mem_of_getElem? (i := 721) (by decide +kernel), List.mem_of_getElem? (i := 937) (by decide +kernel), List.mem_of_getElem? (i := 938) (by decide +kernel)⟩
theorem lw_p60 : lw_okq (⟨"TypeBenchModel", "newUnknown", "()I"⟩, 39) := ⟨⟨by decide +kernel, by decide +kernel⟩, List.mem_of_getElem? (i := 721) (by decide +kernel), List.mem_of_getElem? (i := 941) (by decide +kernel), List.mem_of_getElem? (i := 942) (by decide +kernel)⟩
theorem lw_p61 : lw_okq (⟨"TypeBenchModel", "isIn", "(II)Z"⟩, 39) := ⟨⟨by decide +kernel, by decide +kernel⟩, List.mem_of_getElem? (i := 721) (by decide +kernel), List.mem_of_getElem? (i := 945) (by decide +kernel), List.mem_of_getElem? (i := 946) (by decide +kernel)⟩
theorem lw_p62 : lw_okq (⟨"TypeBenchModel", "indexOf", "(II)I"⟩, 39) := ⟨⟨by decide +kernel, by decide +kernel⟩, List.mem_of_getElem? (i := 721) (by decide +kernel), List.mem_of_getElem? (i := 949) (by decide +kernel), List.mem_of_getElem? (i := 950) (by decide +kernel)⟩
theorem lw_p63 : lw_okq (⟨"TypeBenchModel", "set", "(ZII)V"⟩, 39) := ⟨⟨by decide +kernel, by decide +kernel⟩, List.mem_of_getElem? (i := 721) (by decide +kernel), List.mem_of_getElem? (i := 953) (by decide +kernel), List.mem_of_getElem? (i := 954) (by decide +kernel)⟩
def lw_privs_4 : List (MethodName × Nat) := [(⟨"TypeBenchModel", "bind", "()I"⟩, 39), (⟨"TypeBenchModel", "bracket", "()Z"⟩, 39), (⟨"TypeBenchModel", "readType", "()I"⟩, 39), (⟨"TypeBenchModel", "type", "(III)I"⟩, 39), (⟨"TypeBenchModel", "push", "(III)V"⟩, 39), (⟨"TypeBenchModel", "run", "()V"⟩, 39), (⟨"TypeBenchModel", "compare", "(II)V"⟩, 39), (⟨"TypeBenchModel", "seen", "(I)I"⟩, 39), (⟨"TypeBenchModel", "withVariable", "(I)I"⟩, 39), (⟨"TypeBenchModel", "add", "(III)V"⟩, 39), (⟨"TypeBenchModel", "rest", "(II)I"⟩, 39), (⟨"TypeBenchModel", "withUnknown", "(I)I"⟩, 39), (⟨"TypeBenchModel", "newUnknown", "()I"⟩, 39), (⟨"TypeBenchModel", "isIn", "(II)Z"⟩, 39), (⟨"TypeBenchModel", "indexOf", "(II)I"⟩, 39), (⟨"TypeBenchModel", "set", "(ZII)V"⟩, 39)]
theorem lw_r4 : ∀ q ∈ lw_privs_4, lw_okq q := List.forall_mem_cons.mpr ⟨lw_p48, List.forall_mem_cons.mpr ⟨lw_p49, List.forall_mem_cons.mpr ⟨lw_p50, List.forall_mem_cons.mpr ⟨lw_p51, List.forall_mem_cons.mpr ⟨lw_p52, List.forall_mem_cons.mpr ⟨lw_p53, List.forall_mem_cons.mpr ⟨lw_p54, List.forall_mem_cons.mpr ⟨lw_p55, List.forall_mem_cons.mpr ⟨lw_p56, List.forall_mem_cons.mpr ⟨lw_p57, List.forall_mem_cons.mpr ⟨lw_p58, List.forall_mem_cons.mpr ⟨lw_p59, List.forall_mem_cons.mpr ⟨lw_p60, List.forall_mem_cons.mpr ⟨lw_p61, List.forall_mem_cons.mpr ⟨lw_p62, List.forall_mem_cons.mpr ⟨lw_p63, fun _ h => absurd h List.not_mem_nil⟩⟩⟩⟩⟩⟩⟩⟩⟩⟩⟩⟩⟩⟩⟩⟩
theorem lw_p64 : lw_okq (⟨"TypeBenchModel", "isBefore", "(II)Z"⟩, 39) := ⟨⟨by decide +kernel, by decide +kernel⟩, List.mem_of_getElem? (i := 721) (by decide +kernel), List.mem_of_getElem? (i := 957) (by decide +kernel), List.mem_of_getElem? (i := 958) (by decide +kernel)⟩
theorem lw_p65 : lw_okq (⟨"TypeBenchModel", "solve", "(II)V"⟩, 39) := ⟨⟨by decide +kernel, by decide +kernel⟩, List.mem_of_getElem? (i := 721) (by decide +kernel), List.mem_of_getElem? (i := 961) (by decide +kernel), List.mem_of_getElem? (i := 962) (by decide +kernel)⟩
theorem lw_p66 : lw_okq (⟨"TypeBenchModel", "split", "(I)I"⟩, 39) := ⟨⟨by decide +kernel, by decide +kernel⟩, List.mem_of_getElem? (i := 721) (by decide +kernel), List.mem_of_getElem? (i := 965) (by decide +kernel), List.mem_of_getElem? (i := 966) (by decide +kernel)⟩
theorem lw_p67 : lw_okq (⟨"TypeBenchModel", "check", "(II)V"⟩, 39) := ⟨⟨by decide +kernel, by decide +kernel⟩, List.mem_of_getElem? (i := 721) (by decide +kernel), List.mem_of_getElem? (i := 969) (by decide +kernel), List.mem_of_getElem? (i := 970) (by decide +kernel)⟩
theorem lw_p68 : lw_okq (⟨"TypeBenchModel", "find", "(I)V"⟩, 39) := ⟨⟨by decide +kernel, by decide +kernel⟩, List.mem_of_getElem? (i := 721) (by decide +kernel), List.mem_of_getElem? (i := 973) (by decide +kernel), List.mem_of_getElem? (i := 974) (by decide +kernel)⟩
theorem lw_p69 : lw_okq (⟨"TypeBenchModel", "apply", "(I)V"⟩, 39) := ⟨⟨by decide +kernel, by decide +kernel⟩, List.mem_of_getElem? (i := 721) (by decide +kernel), List.mem_of_getElem? (i := 977) (by decide +kernel), List.mem_of_getElem? (i := 978) (by decide +kernel)⟩
theorem lw_p70 : lw_okq (⟨"TypeBenchModel", "print", "(I)V"⟩, 39) := ⟨⟨by decide +kernel, by decide +kernel⟩, List.mem_of_getElem? (i := 721) (by decide +kernel), List.mem_of_getElem? (i := 981) (by decide +kernel), List.mem_of_getElem? (i := 982) (by decide +kernel)⟩
def lw_privs_5 : List (MethodName × Nat) := [(⟨"TypeBenchModel", "isBefore", "(II)Z"⟩, 39), (⟨"TypeBenchModel", "solve", "(II)V"⟩, 39), (⟨"TypeBenchModel", "split", "(I)I"⟩, 39), (⟨"TypeBenchModel", "check", "(II)V"⟩, 39), (⟨"TypeBenchModel", "find", "(I)V"⟩, 39), (⟨"TypeBenchModel", "apply", "(I)V"⟩, 39), (⟨"TypeBenchModel", "print", "(I)V"⟩, 39)]
theorem lw_r5 : ∀ q ∈ lw_privs_5, lw_okq q := List.forall_mem_cons.mpr ⟨lw_p64, List.forall_mem_cons.mpr ⟨lw_p65, List.forall_mem_cons.mpr ⟨lw_p66, List.forall_mem_cons.mpr ⟨lw_p67, List.forall_mem_cons.mpr ⟨lw_p68, List.forall_mem_cons.mpr ⟨lw_p69, List.forall_mem_cons.mpr ⟨lw_p70, fun _ h => absurd h List.not_mem_nil⟩⟩⟩⟩⟩⟩⟩
def lw_privs : List (MethodName × Nat) := lw_privs_1 ++ (lw_privs_2 ++ (lw_privs_3 ++ (lw_privs_4 ++ (lw_privs_5))))
def lw_tbl : List Cond := k2_sels lw_privs ++ tables_1
theorem lw_privs_ok : ∀ q ∈ lw_privs, lw_okq q := by
  show ∀ q ∈ lw_privs_1 ++ (lw_privs_2 ++ (lw_privs_3 ++ (lw_privs_4 ++ (lw_privs_5)))), lw_okq q
  exact List.forall_mem_append.mpr ⟨lw_r1, List.forall_mem_append.mpr ⟨lw_r2, List.forall_mem_append.mpr ⟨lw_r3, List.forall_mem_append.mpr ⟨lw_r4, lw_r5⟩⟩⟩⟩
-- ===== end of PART A; then your names; then what follows =====
end
section
/-! ===== BEGIN words of one list among another's, by their places ===== -/
theorem goodIn_r {big : List Cond} (ws : List Cond) (ps : List Nat) (hp : ws = ps.filterMap (fun i => big[i]?)) (h : ws.all goodWord = true) : GoodIn big ws := by
  intro w hw
  have h1 := List.all_eq_true.mp h w hw
  rw [hp] at hw
  obtain ⟨i, -, hi⟩ := List.mem_filterMap.mp hw
  have hm : w ∈ big := by first | exact List.mem_of_getElem? hi | exact List.getElem?_mem hi
  exact ⟨hm, good_of_word h1⟩
theorem goodIn_app {big a b : List Cond} (ha : GoodIn big a) (hb : GoodIn big b) : GoodIn big (a ++ b) := fun w h => (List.mem_append.mp h).elim (ha w) (hb w)
theorem goodIn_ca {big a b : List Cond} {c : Cond} (ha : GoodIn big (c :: a)) (hb : GoodIn big b) : GoodIn big (c :: (a ++ b)) := fun w h => (List.mem_cons.mp h).elim (fun e => ha w (List.mem_cons.mpr (Or.inl e))) (fun h => (List.mem_append.mp h).elim (fun h => ha w (List.mem_cons.mpr (Or.inr h))) (hb w))
theorem goodIn_sub {big ws : List Cond} (hm : ∀ w ∈ ws, w ∈ big) (h : ws.all goodWord = true) : GoodIn big ws := fun w hw => ⟨hm w hw, good_of_word (List.all_eq_true.mp h w hw)⟩
/-! ===== END ===== -/

/-! ===== BEGIN exceptions that leave a method, and their catching by the caller (launches without stack traces) ===== -/
section VXA
/-! The laws vx_back, vx_callV, vx_callS, vx_callSW, vx_throw0, vx_throwS follow proofs of the library, with one case more: JvmDerived/Free/Laws.lean (Back.of_free), Shelf42/LK1.lean (callV, callS), Shelf/KitTraced.lean (throwNew0V, throwNewS). -/
/-- where a method has thrown q: the class by its name, the cell, what was written, the world -/
def vx_T (XC : String → State → State → Prop) (st : State) (q : Addr) (t : State) (mc ms : Nat) (free : Addr → Prop) : Prop :=
  ∃ (E : String) (ce : Cell) (L : List Loc), XC E st t ∧ t.heap[q]? = some ce ∧ ce.vm = .none ∧ st.vm.findClass E = some ce.cls ∧ st.WarmedH t.vm ∧ st.sameButNew ({ t with vm := st.vm } : State) L mc ms ∧ ∀ z ∈ L, free z.base
def vx_Q (Qc : Array Value → State → Outcome → State → Prop) (XC : String → State → State → Prop) (mc ms : Nat) (free : Addr → Prop) : Array Value → State → Outcome → State → Prop := fun a st o t =>
  (Qc a st o t ∧ ∃ L, FrameEnd st o t L mc ms ∧ ∀ q ∈ L, free q.base) ∨ ∃ q, o = .threw q ∧ vx_T XC st q t mc ms free
/-- a callee that returns or throws -/
def vx_Met (l : Launch) (y : MethodName) (ws : List Cond) (rm : Room) (Pc : Array Value → State → Prop) (Qc : Array Value → State → Outcome → State → Prop) (XC : String → State → State → Prop) (mc ms : Nat) (free : Addr → Prop) : Prop :=
  MetFree l y (headSpec ws rm) Pc (fun _ _ _ _ _ => True) (vx_Q Qc XC mc ms free)
def vx_Post (XC : String → State → State → Prop) (mc ms : Nat) (free : Addr → Prop) : Pt → Array Value → Addr → Pt → Prop := fun A a q B =>
  ∃ (g : JFrame) (mk : MethodId) (t : State) (L : List Loc) (E : String) (ce : Cell), B.U.heap = t.heap ∧ B.U.vm = t.vm ∧ XC E (A.U.calling g mk a) t ∧ t.heap[q]? = some ce ∧ ce.vm = .none ∧ A.U.vm.findClass E = some ce.cls ∧ B.locs = A.locs ++ L ∧ (∀ z ∈ L, free z.base) ∧ B.cells = A.cells + mc ∧ B.slots = A.slots + ms
def vx_Back (l : Launch) (R : Room) (p : Program) (e : Env) (below : List Frame) (s : State) (sargs : Array Value) (y : MethodName) (len W9 : Nat)
    (Pre : Pt → Array Value → Prop) (Post : Pt → Array Value → Option Value → Pt → Prop) (PostX : Pt → Array Value → Addr → Pt → Prop) : Prop :=
  ∀ (m : MethodId) (meth : Method) (c : Code) (A : Pt) (g : JFrame) (ig : Instr) (mk : MethodId) (a : Array Value),
    Stand p l e R s m sargs below meth c A.U A.locs A.cells A.slots → g.method = m → g.locals.size = c.maxLocals → decode c.code g.pc = .ok (ig, len) →
    2 * g.monitorRoom + (g.stack.map fun v => v.category).sum ≤ W9 → A.U.methodNamed? y = some mk → Pre A a →
    (∃ (v : Option Value) (B : Pt), Stand p l e R s m sargs below meth c B.U B.locs B.cells B.slots ∧ Post A a v B ∧
      Steps p.tables e below (doInvoke e (A.U.setTop g) [] mk a).1 (B.U.setTop { g with pc := g.pc + len, stack := v.toList ++ g.stack })) ∨
    (∃ (q : Addr) (B : Pt), Stand p l e R s m sargs below meth c B.U B.locs B.cells B.slots ∧ PostX A a q B ∧
      Steps p.tables e below (doInvoke e (A.U.setTop g) [] mk a).1 ((B.U.setTop g).pushFrame (.throwing q)))
section Payer
variable {l : Launch} {R : Room} {p : Program} {e : Env} {below : List Frame} {s : State} {sargs : Array Value} {y : MethodName} {len W9 : Nat}
theorem vx_back {ws : List Cond} {rm : Room} {Pc : Array Value → State → Prop} {Qc : Array Value → State → Outcome → State → Prop} {XC : String → State → State → Prop} {mc ms : Nat} {free : Addr → Prop} {bytes : ByteArray} {maxL : Nat} {ret : Option FieldType}
    (hM : vx_Met l y ws rm Pc Qc XC mc ms free) (hblind : FrameBlind Pc) (hrc : rm.cells = mc) (hrs : rm.slots = ms)
    (hframes : rm.frames + 1 ≤ R.frames) (hlocals : W9 + (maxL + 11) + rm.locals ≤ R.locals)
    (hws : ∀ w ∈ ws, ∀ a' U, s.WarmedH U.vm → w.before a' U = true) (hcode : Cond.code y bytes maxL ret ∈ ws) (hinit : ∀ a' U, s.WarmedH U.vm → (Cond.initialized y.cls).before a' U = true) :
    vx_Back l R p e below s sargs y len W9 (PreOf R mc ms Pc) (PostOf Qc mc ms free) (vx_Post XC mc ms free) := by
  intro m meth c A g ig mk a X hg hsize hdg hW hn hp
  have h1 : (headSpec ws rm).pre.before a A.U = true := atoms_intro fun w hw => hws w hw _ _ X.warmed
  have h2 : (Cond.code y bytes maxL ret).before a A.U = true := hws _ hcode _ _ X.warmed
  have h3 : (Cond.initialized y.cls).before a A.U = true := hinit _ _ X.warmed
  have h4 : A.cells + (headSpec ws rm).room.cells ≤ R.cells := by rw [show (headSpec ws rm).room.cells = mc from hrc]; exact hp.1
  have h5 : A.slots + (headSpec ws rm).room.slots ≤ R.slots := by rw [show (headSpec ws rm).room.slots = ms from hrs]; exact hp.2.1
  have hPc : Pc a (A.U.calling g mk a) := hblind _ _ _ _ hp.2.2
  obtain ⟨U, Ls, c0, s0⟩ := A
  dsimp only [Pt.U, Pt.locs, Pt.cells, Pt.slots] at h1 h2 h3 h4 h5 X hn hPc ⊢
  obtain ⟨methY, cY, hmY, hcY, -, hlY, -, -, -, -⟩ := Cond.code_spec hn h2
  obtain ⟨kY, hkY, -⟩ := className_of_methodNamed hn
  have hinitY : kY.init = .initialized := Cond.initialized_spec (findClass_of_methodNamed hn) hkY h3
  have h : At U g.method c below := by rw [hg]; exact X.here
  have hlocals9 : W9 + (maxL + 11) + (headSpec ws rm).room.locals ≤ R.locals := hlocals
  have happ : (headSpec ws rm).appliesLoose y e.platform (U.calling g mk a) = true :=
    Spec.appliesLoose_calling (g := g) h hdg hn hkY hinitY
      (X.room_calling (g := g) (R' := (headSpec ws rm).room) hsize hmY hcY hframes (by rw [hlY]; omega) h4 h5) h1
  obtain ⟨mid, hmid⟩ := h.above
  have hfr : (U.setTop g).frames = (.java g :: mid) ++ below := by rw [State.frames_setTop' g h.top, hmid]; rfl
  obtain ⟨o, s₂, hsteps, -, hend, hq⟩ := Steps.callFree hM p X.admits X.cas X.clock (acts := []) hfr happ hPc trivial
  have hq' : vx_Q Qc XC mc ms free a (U.calling g mk a) o s₂ := hq
  rw [State.frames_setTop' g h.top] at hend
  obtain ⟨g₀, hg0⟩ := Option.isSome_iff_exists.mp h.top
  obtain ⟨r, hr⟩ := State.topJava?_eq_some.mp hg0
  have hr' : (({ U with heap := s₂.heap, slotsUsed := s₂.slotsUsed } : State).setVm s₂.vm).frames = .java g₀ :: r := hr
  rcases hq' with ⟨hqc, L, hfe, hL⟩ | ⟨q, rfl, E, ce, L, hx, hce, hcv, hcl, hW₂, hsm, hL⟩
  · obtain ⟨⟨v, rfl⟩, hW₂, e2, q2, q3, q4, q5, q6⟩ := id hfe
    have e3 : s₂ = ({ (U.calling g mk a).setFrames s₂.frames with heap := s₂.heap, slotsUsed := s₂.slotsUsed } : State).setVm s₂.vm := by
      have : s₂ = ({ s₂ with vm := (U.calling g mk a).vm } : State).setVm s₂.vm := rfl
      rw [e2] at this
      exact this
    obtain ⟨c₂, i₂, len₂, hc₂, hd₂, hf₂⟩ := hend
    have hW' : U.WarmedH s₂.vm := hW₂
    have hcc : c₂ = c := by
      have h1 : s₂.code? g.method = U.code? g.method := by
        rw [State.code?_eq, State.code?_eq, hW'.alike.method?]
      exact Option.some.inj (hc₂.symm.trans (h1.trans h.code))
    subst hcc
    have hlen : len₂ = len := by rw [hdg] at hd₂; cases hd₂; rfl
    subst hlen
    have hs₂ : s₂ = (({ U with heap := s₂.heap, slotsUsed := s₂.slotsUsed } : State).setVm s₂.vm).setTop { g with pc := g.pc + len₂, stack := v.toList ++ g.stack } := by
      refine e3.trans ?_
      rw [hf₂, State.calling_eq h.top, State.setFrames_setFrames, State.setTop_of_frames _ hr', hr]
      rfl
    have hsame : U.sameButNew ({ U with heap := s₂.heap, slotsUsed := s₂.slotsUsed } : State) L mc ms := by
      refine ⟨?_, q2, q3, q4, q5, q6⟩
      obtain ⟨t, ht, -⟩ := State.frames_cons hr
      show ({ U with heap := s₂.heap, slotsUsed := s₂.slotsUsed } : State) = { U.setFrames U.frames with heap := s₂.heap, slotsUsed := s₂.slotsUsed }
      rw [State.setFrames_self ht]
    subst hg
    refine Or.inl ⟨v, ⟨(({ U with heap := s₂.heap, slotsUsed := s₂.slotsUsed } : State).setVm s₂.vm), Ls ++ L, c0 + mc, s0 + ms⟩,
      ⟨X.admits, X.cas, X.clock, X.frames, X.room, X.hears, X.method, X.code, (X.here.setHeapUsed s₂.heap s₂.slotsUsed).setVm hW'.alike, X.tail, State.WarmedH.trans X.warmed hW', X.limits, X.bytes, X.same.trans (hsame.setVm s.vm)⟩,
      ⟨g, mk, s₂, L, rfl, rfl, hqc, rfl, hL, rfl, rfl⟩, ?_⟩
    show Steps p.tables e below _ ((({ U with heap := s₂.heap, slotsUsed := s₂.slotsUsed } : State).setVm s₂.vm).setTop { g with pc := g.pc + len₂, stack := v.toList ++ g.stack })
    rw [← hs₂]
    exact hsteps
  · obtain ⟨e2, q2, q3, q4, q5, q6⟩ := id hsm
    have e3 : s₂ = ({ (U.calling g mk a).setFrames s₂.frames with heap := s₂.heap, slotsUsed := s₂.slotsUsed } : State).setVm s₂.vm := by
      have : s₂ = ({ s₂ with vm := (U.calling g mk a).vm } : State).setVm s₂.vm := rfl
      rw [e2] at this
      exact this
    have hf₂ : s₂.frames = .throwing q :: .java g :: U.frames.tail := hend
    have hW' : U.WarmedH s₂.vm := hW₂
    have hs₂ : s₂ = ((({ U with heap := s₂.heap, slotsUsed := s₂.slotsUsed } : State).setVm s₂.vm).setTop g).pushFrame (.throwing q) := by
      refine e3.trans ?_
      rw [hf₂, State.calling_eq h.top, State.setFrames_setFrames, State.pushFrame, State.frames_setTop _ hr', State.setTop_of_frames _ hr', State.setFrames_setFrames, hr]
      rfl
    have hsame : U.sameButNew ({ U with heap := s₂.heap, slotsUsed := s₂.slotsUsed } : State) L mc ms := by
      refine ⟨?_, q2, q3, q4, q5, q6⟩
      obtain ⟨t, ht, -⟩ := State.frames_cons hr
      show ({ U with heap := s₂.heap, slotsUsed := s₂.slotsUsed } : State) = { U.setFrames U.frames with heap := s₂.heap, slotsUsed := s₂.slotsUsed }
      rw [State.setFrames_self ht]
    subst hg
    refine Or.inr ⟨q, ⟨(({ U with heap := s₂.heap, slotsUsed := s₂.slotsUsed } : State).setVm s₂.vm), Ls ++ L, c0 + mc, s0 + ms⟩,
      ⟨X.admits, X.cas, X.clock, X.frames, X.room, X.hears, X.method, X.code, (X.here.setHeapUsed s₂.heap s₂.slotsUsed).setVm hW'.alike, X.tail, State.WarmedH.trans X.warmed hW', X.limits, X.bytes, X.same.trans (hsame.setVm s.vm)⟩,
      ⟨g, mk, s₂, L, E, ce, rfl, rfl, hx, hce, hcv, hcl, rfl, hL, rfl, rfl⟩, ?_⟩
    show Steps p.tables e below _ (((({ U with heap := s₂.heap, slotsUsed := s₂.slotsUsed } : State).setVm s₂.vm).setTop g).pushFrame (.throwing q))
    rw [← hs₂]
    exact hsteps
end Payer
section Calls
variable {p : Program} {l : Launch} {e : Env} {R : Room} {s : State} {m : MethodId} {args : Array Value} {below : List Frame} {meth : Method} {c : Code} {T : State} {locs : List Loc} {cells slots : Nat}
theorem vx_callV (X : Stand p l e R s m args below meth c T locs cells slots) (hexec : p.tables.exec = Jvm.exec) {own C : String} {index : Nat} {y : MethodName} {bytes : ByteArray} {maxL : Nat} {ret : Option FieldType}
    (hown : s.vm.findClass own = some m.cls) (hlink : (Cond.methodLink own index y).before args s = true) (hinst : (Cond.instanceMethod y).before args s = true) (hsel : (Cond.selects C y y).before args s = true)
    (hcode : (Cond.code y bytes maxL ret).before args s = true) (hy : y.cls ≠ "java/lang/invoke/MethodHandle" ∧ y.cls ≠ "java/lang/invoke/VarHandle")
    {W9 : Nat} {Pre : Pt → Array Value → Prop} {Post : Pt → Array Value → Option Value → Pt → Prop} {PostX : Pt → Array Value → Addr → Pt → Prop} (hK : vx_Back l R p e below s args y 3 W9 Pre Post PostX)
    {b : Addr} {cellB : Cell} (hcell : T.heap[b]? = some cellB) (hobj : cellB.vm.isStatics = false) (hcls : s.vm.findClass C = some cellB.cls)
    {g : JFrame} (hg : g.method = m) (hsize : g.locals.size = c.maxLocals) {argsL rest : List Value} (hlen : ∀ sig, parseMethodDescriptor y.desc = some sig → argsL.length = sig.parameters.length)
    (hstack : g.stack = argsL.reverse ++ .ref b :: rest) (hW : 2 * g.monitorRoom + (rest.map fun v => v.category).sum ≤ W9) (hdg : decode c.code g.pc = .ok (.invokevirtual index, 3))
    (hpre : ∀ vm₁, s.WarmedH vm₁ → Pre ⟨T.setVm vm₁, locs, cells, slots⟩ (Value.ref b :: argsL).toArray) :
    (∃ (v : Option Value) (vm₁ : Vm) (B : Pt), s.WarmedH vm₁ ∧ Stand p l e R s m args below meth c B.U B.locs B.cells B.slots ∧ Post ⟨T.setVm vm₁, locs, cells, slots⟩ (Value.ref b :: argsL).toArray v B ∧
      ∀ target, Steps p.tables e below (B.U.setTop { g with pc := g.pc + 3, stack := v.toList ++ rest }) target → Steps p.tables e below (T.setTop g) target) ∨
    (∃ (q : Addr) (vm₁ : Vm) (B : Pt), s.WarmedH vm₁ ∧ Stand p l e R s m args below meth c B.U B.locs B.cells B.slots ∧ PostX ⟨T.setVm vm₁, locs, cells, slots⟩ (Value.ref b :: argsL).toArray q B ∧
      Steps p.tables e below (T.setTop g) ((B.U.setTop { g with stack := rest }).pushFrame (.throwing q))) := by
  obtain ⟨mk, methM, hnamed, hmethM, hstM, habM⟩ := Cond.instanceMethod_spec hinst
  obtain ⟨methM', cM, hmethM', -, -, -, -, -, -, hsigM⟩ := Cond.code_spec hnamed hcode
  cases hmethM.symm.trans hmethM'
  obtain ⟨c2, r2, m2, q1, q2, q3, q4, kP, hkP, hkPi⟩ := Cond.selects_spec hsel
  cases hcls.symm.trans q1
  cases (State.methodFound?_of_named hnamed hy).symm.trans q2
  cases hnamed.symm.trans q3
  have hselP : selectMethod e.platform s.vm cellB.cls mk = .method mk := by rw [Launch.admits_selectMethod X.admits]; exact q4
  obtain ⟨vm₁, X₁, hstep₁⟩ := X.invokevirtual hexec hown hlink hnamed hmethM hstM hkP hkPi hy (a := b) (cell := cellB) hcell
    (fun z h => by rw [h] at hobj; cases hobj) hselP hmethM habM hkP hkPi (g := g) hg (argsL := argsL) (rest := rest) (hlen _ hsigM) hstack hdg
  rcases hK m meth c ⟨T.setVm vm₁, locs, cells, slots⟩ { g with stack := rest } (.invokevirtual index) mk (Value.ref b :: argsL).toArray X₁ hg hsize hdg hW (X₁.named hnamed) (hpre vm₁ X₁.warmed) with ⟨v, B, X', hpost, hsteps⟩ | ⟨q, B, X', hpost, hsteps⟩
  · exact Or.inl ⟨v, vm₁, B, X₁.warmed, X', hpost, fun target h => hstep₁ _ fun acts => by rw [doInvoke_state]; exact hsteps.trans h⟩
  · exact Or.inr ⟨q, vm₁, B, X₁.warmed, X', hpost, hstep₁ _ fun acts => by rw [doInvoke_state]; exact hsteps⟩
theorem vx_callS (X : Stand p l e R s m args below meth c T locs cells slots) (hexec : p.tables.exec = Jvm.exec) {own : String} {index : Nat} {y : MethodName} {bytes : ByteArray} {maxL : Nat} {ret : Option FieldType}
    (hown : s.vm.findClass own = some m.cls) (hlink : (Cond.methodLink own index y).before args s = true) (hstat : (Cond.static y).before args s = true) (hinit : (Cond.initialized y.cls).before args s = true)
    (hcode : (Cond.code y bytes maxL ret).before args s = true) (hy : y.cls ≠ "java/lang/invoke/MethodHandle" ∧ y.cls ≠ "java/lang/invoke/VarHandle")
    {W9 : Nat} {Pre : Pt → Array Value → Prop} {Post : Pt → Array Value → Option Value → Pt → Prop} {PostX : Pt → Array Value → Addr → Pt → Prop} (hK : vx_Back l R p e below s args y 3 W9 Pre Post PostX)
    {g : JFrame} (hg : g.method = m) (hsize : g.locals.size = c.maxLocals) {argsL rest : List Value} (hlen : ∀ sig, parseMethodDescriptor y.desc = some sig → argsL.length = sig.parameters.length)
    (hstack : g.stack = argsL.reverse ++ rest) (hW : 2 * g.monitorRoom + (rest.map fun v => v.category).sum ≤ W9) (hdg : decode c.code g.pc = .ok (.invokestatic index, 3))
    (hpre : ∀ vm₁, s.WarmedH vm₁ → Pre ⟨T.setVm vm₁, locs, cells, slots⟩ argsL.toArray) :
    (∃ (v : Option Value) (vm₁ : Vm) (B : Pt), s.WarmedH vm₁ ∧ Stand p l e R s m args below meth c B.U B.locs B.cells B.slots ∧ Post ⟨T.setVm vm₁, locs, cells, slots⟩ argsL.toArray v B ∧
      ∀ target, Steps p.tables e below (B.U.setTop { g with pc := g.pc + 3, stack := v.toList ++ rest }) target → Steps p.tables e below (T.setTop g) target) ∨
    (∃ (q : Addr) (vm₁ : Vm) (B : Pt), s.WarmedH vm₁ ∧ Stand p l e R s m args below meth c B.U B.locs B.cells B.slots ∧ PostX ⟨T.setVm vm₁, locs, cells, slots⟩ argsL.toArray q B ∧
      Steps p.tables e below (T.setTop g) ((B.U.setTop { g with stack := rest }).pushFrame (.throwing q))) := by
  obtain ⟨mk, hnamed⟩ := Cond.code_named hcode
  obtain ⟨methM, cM, hmethM, -, -, -, -, -, -, hsigM⟩ := Cond.code_spec hnamed hcode
  have hstatic : methM.isStatic = true := Cond.static_spec hnamed hmethM hstat
  obtain ⟨kP, hkP, -⟩ := className_of_methodNamed hnamed
  have hinitP : kP.init = .initialized := Cond.initialized_spec (findClass_of_methodNamed hnamed) hkP hinit
  obtain ⟨vm₁, X₁, hstep₁⟩ := X.invokestatic hexec hown hlink hnamed hmethM hstatic hkP hinitP hy (g := g) hg (argsL := argsL) (rest := rest) (hlen _ hsigM) hstack hdg
  rcases hK m meth c ⟨T.setVm vm₁, locs, cells, slots⟩ { g with stack := rest } (.invokestatic index) mk argsL.toArray X₁ hg hsize hdg hW (X₁.named hnamed) (hpre vm₁ X₁.warmed) with ⟨v, B, X', hpost, hsteps⟩ | ⟨q, B, X', hpost, hsteps⟩
  · exact Or.inl ⟨v, vm₁, B, X₁.warmed, X', hpost, fun target h => hstep₁ _ fun acts => by rw [doInvoke_state]; exact hsteps.trans h⟩
  · exact Or.inr ⟨q, vm₁, B, X₁.warmed, X', hpost, hstep₁ _ fun acts => by rw [doInvoke_state]; exact hsteps⟩
end Calls
theorem vx_cls {s : State} {T : State} {vm₁ : Vm} {E : String} {k : ClassId} (hW : s.WarmedH vm₁) (h : (T.setVm vm₁).vm.findClass E = some k) : s.vm.findClass E = some k := by
  have h1 : vm₁.findClass E = some k := h
  rw [hW.alike.findClass] at h1
  exact h1
/-- the method's frame g, with q thrown over it -/
def vx_W (p : Program) (l : Launch) (e : Env) (R : Room) (s : State) (m : MethodId) (args : Array Value) (below : List Frame) (meth : Method) (c : Code) (H : Heap) (locs : List Loc) (cells slots : Nat) (Q : State → Prop) (g : JFrame) (q : Addr) : Prop :=
  ∀ T : State, T.heap = H → Stand p l e R s m args below meth c T locs cells slots → ∃ t, Steps p.tables e below ((T.setTop g).pushFrame (.throwing q)) t ∧ Q t
def vx_Run (p : Program) (l : Launch) (e : Env) (R : Room) (s : State) (m : MethodId) (args : Array Value) (below : List Frame) (meth : Method) (c : Code) (H : Heap) (locs : List Loc) (cells slots mc ms : Nat) (g : JFrame) (rest : List Value) (Qa : State → Outcome → State → Prop) (XC : String → State → State → Prop) (free : Addr → Prop) : Prop :=
  ∀ T : State, T.heap = H → Stand p l e R s m args below meth c T locs cells slots →
    (∃ (v : Option Value) (st₀ t T' : State) (L : List Loc), st₀.heap = H ∧ Stand p l e R s m args below meth c T' (locs ++ L) (cells + mc) (slots + ms) ∧ (∀ q ∈ L, free q.base) ∧ T'.heap = t.heap ∧ T'.vm = t.vm ∧ Qa st₀ (.returned v) t ∧
      Goes p e below T g T' { g with pc := g.pc + 3, stack := v.toList ++ rest }) ∨
    (∃ (q : Addr) (st₀ t T' : State) (L : List Loc) (E : String) (ce : Cell), st₀.heap = H ∧ Stand p l e R s m args below meth c T' (locs ++ L) (cells + mc) (slots + ms) ∧ (∀ z ∈ L, free z.base) ∧ T'.heap = t.heap ∧ T'.vm = t.vm ∧ XC E st₀ t ∧ t.heap[q]? = some ce ∧ ce.vm = .none ∧ s.vm.findClass E = some ce.cls ∧
      Steps p.tables e below (T.setTop g) ((T'.setTop { g with stack := rest }).pushFrame (.throwing q)))
def vx_X {S : Type} (px : S → Prop) (B : String → S → State → Prop) (A : Nat → Prop) : String → State → State → Prop := fun E st t => ∃ u : S, px u ∧ B E u t ∧ va_F A st t
section Runs
variable {p : Program} {l : Launch} {e : Env} {R : Room} {s : State} {m : MethodId} {args : Array Value} {below : List Frame} {meth : Method} {c : Code} {H : Heap} {locs : List Loc} {cells slots : Nat}
variable {y : MethodName} {bytes cc : ByteArray} {maxL nL mc ms n index : Nat} {ret : Option FieldType} {ws : List Cond} {rm : Room} {Pc : Array Value → State → Prop} {Qc : Array Value → State → Outcome → State → Prop} {XC : String → State → State → Prop} {free : Addr → Prop} {Ts : List Cond} {own C : String} {b : Addr} {As rest : List Value} {g : JFrame}
theorem vx_callBack (cb : CallB R s args own index y bytes maxL ret ws rm mc ms n) (hM : vx_Met l y ws rm Pc Qc XC mc ms free) (hbl : FrameBlind Pc) : vx_Back l R p e below s args y 3 8 (PreOf R mc ms Pc) (PostOf Qc mc ms free) (vx_Post XC mc ms free) := by
  obtain ⟨hrc, hrs, hfr, hlo, hws, hcw, -, hini, -⟩ := cb
  exact vx_back (bytes := bytes) (maxL := maxL) (ret := ret) hM hbl hrc hrs hfr hlo hws hcw (fun a' U hW => word_at hW (Or.inl (by first | rfl | simp [Cond.onTables, Cond.keeps, Cond.steady])) hini)
theorem vx_runV (S : CallFix p m c cc nL s args Ts own) (hM : vx_Met l y ws rm Pc Qc XC mc ms free) (cw : CallW R s args own C index y bytes maxL ret ws rm mc ms n) (hp : PreV s H C b Pc As)
    (hg : g.method = m) (hn : As.length = n) (hsize : g.locals.size = nL) (hstack : g.stack = As.reverse ++ .ref b :: rest) (hW : 2 * g.monitorRoom + (rest.map fun v => v.category).sum ≤ 8) (hdg : decode cc g.pc = .ok (.invokevirtual index, 3)) (hf : cells + mc ≤ R.cells ∧ slots + ms ≤ R.slots) :
    vx_Run p l e R s m args below meth c H locs cells slots mc ms g rest (Qc (Value.ref b :: As).toArray) XC free := by
  have hK : vx_Back l R p e below s args y 3 8 (PreOf R mc ms Pc) (PostOf Qc mc ms free) (vx_Post XC mc ms free) := vx_callBack cw.1 hM hp.1
  obtain ⟨⟨-, -, -, -, -, -, hcode, -, hy, hlen, hl⟩, hin, hse⟩ := cw
  obtain ⟨hx, hb, hml, ho, -⟩ := S
  obtain ⟨-, ⟨cellB, hcB, hoB, hclB⟩, hPc⟩ := hp
  intro T hT X
  rcases vx_callV X hx (C := C) (bytes := bytes) (maxL := maxL) (ret := ret) ho hl hin hse hcode hy hK (by rw [hT]; exact hcB) hoB hclB hg (hsize.trans hml.symm) (argsL := As) (rest := rest) (fun sig h => hn.trans (hlen sig h)) hstack hW (by rw [hb]; exact hdg)
    (fun vm₁ hW₁ => ⟨hf.1, hf.2, hPc (T.setVm vm₁) hT hW₁⟩) with ⟨v, vm₁, ⟨U', l2, c2, s2⟩, hW₁, X', ⟨g', mk, t, L, e1, e2, hq, h1, hL, h2, h3⟩, st⟩ | ⟨q, vm₁, ⟨U', l2, c2, s2⟩, hW₁, X', ⟨g', mk, t, L, E, ce, e1, e2, hq, hce, hcv, hcl, h1, hL, h2, h3⟩, st⟩
  · dsimp only [Pt.U, Pt.locs, Pt.cells, Pt.slots] at X' e1 e2 h1 h2 h3 st
    subst h1; subst h2; subst h3
    exact Or.inl ⟨v, (T.setVm vm₁).calling g' mk (Value.ref b :: As).toArray, t, U', L, hT, X', hL, e1, e2, hq, st⟩
  · dsimp only [Pt.U, Pt.locs, Pt.cells, Pt.slots] at X' e1 e2 h1 h2 h3 st hcl
    subst h1; subst h2; subst h3
    exact Or.inr ⟨q, (T.setVm vm₁).calling g' mk (Value.ref b :: As).toArray, t, U', L, E, ce, hT, X', hL, e1, e2, hq, hce, hcv, vx_cls hW₁ hcl, st⟩
theorem vx_runS (S : CallFix p m c cc nL s args Ts own) (hM : vx_Met l y ws rm Pc Qc XC mc ms free) (cw : CallB R s args own index y bytes maxL ret ws rm mc ms n ∧ (Cond.static y).before args s = true) (hp : PreS s H Pc As)
    (hg : g.method = m) (hn : As.length = n) (hsize : g.locals.size = nL) (hstack : g.stack = As.reverse ++ rest) (hW : 2 * g.monitorRoom + (rest.map fun v => v.category).sum ≤ 8) (hdg : decode cc g.pc = .ok (.invokestatic index, 3)) (hf : cells + mc ≤ R.cells ∧ slots + ms ≤ R.slots) :
    vx_Run p l e R s m args below meth c H locs cells slots mc ms g rest (Qc As.toArray) XC free := by
  have hK : vx_Back l R p e below s args y 3 8 (PreOf R mc ms Pc) (PostOf Qc mc ms free) (vx_Post XC mc ms free) := vx_callBack cw.1 hM hp.1
  obtain ⟨⟨-, -, -, -, -, -, hcode, hini, hy, hlen, hl⟩, hstt⟩ := cw
  obtain ⟨hx, hb, hml, ho, -⟩ := S
  intro T hT X
  rcases vx_callS X hx (bytes := bytes) (maxL := maxL) (ret := ret) ho hl hstt hini hcode hy hK hg (hsize.trans hml.symm) (argsL := As) (rest := rest) (fun sig h => hn.trans (hlen sig h)) hstack hW (by rw [hb]; exact hdg)
    (fun vm₁ hW₁ => ⟨hf.1, hf.2, hp.2 (T.setVm vm₁) hT hW₁⟩) with ⟨v, vm₁, ⟨U', l2, c2, s2⟩, hW₁, X', ⟨g', mk, t, L, e1, e2, hq, h1, hL, h2, h3⟩, st⟩ | ⟨q, vm₁, ⟨U', l2, c2, s2⟩, hW₁, X', ⟨g', mk, t, L, E, ce, e1, e2, hq, hce, hcv, hcl, h1, hL, h2, h3⟩, st⟩
  · dsimp only [Pt.U, Pt.locs, Pt.cells, Pt.slots] at X' e1 e2 h1 h2 h3 st
    subst h1; subst h2; subst h3
    exact Or.inl ⟨v, (T.setVm vm₁).calling g' mk As.toArray, t, U', L, hT, X', hL, e1, e2, hq, st⟩
  · dsimp only [Pt.U, Pt.locs, Pt.cells, Pt.slots] at X' e1 e2 h1 h2 h3 st hcl
    subst h1; subst h2; subst h3
    exact Or.inr ⟨q, (T.setVm vm₁).calling g' mk As.toArray, t, U', L, E, ce, hT, X', hL, e1, e2, hq, hce, hcv, vx_cls hW₁ hcl, st⟩
end Runs
section Rows
variable {p : Program} {l : Launch} {e : Env} {R : Room} {s : State} {m : MethodId} {args : Array Value} {below : List Frame} {meth : Method} {c : Code} {H : Heap} {locs : List Loc} {cells slots : Nat} {Q : State → Prop}
variable {mc ms : Nat} {free : Addr → Prop} {A0 A1 : Nat → Prop} {H0 : Heap} {a : Array Value} {pc : Nat} {ls : Array Slot} {st0 rest : List Value}
theorem vx_keep {st₀ t T' : State} {L : List Loc} (h0 : st₀.heap = H) (e1 : T'.heap = t.heap) (hS : va_S A0 H0 H locs) (hA : ∀ q, q < H.size → A1 q → A0 q) (hf : ∀ q, free q → A0 q) (hL : ∀ q ∈ L, free q.base) (hF : va_F A1 st₀ t) :
    H.size ≤ T'.heap.size ∧ (∀ q : Nat, q < H.size → ¬ A1 q → T'.heap[q]? = H[q]?) ∧ va_S A0 H0 T'.heap (locs ++ L) := by
  obtain ⟨hz, hk⟩ := hF
  rw [h0] at hz hk
  exact ⟨by rw [e1]; exact hz, fun q h1 h2 => by rw [e1]; exact hk q h1 h2,
    ⟨Nat.le_trans hS.1 (by rw [e1]; exact hz), fun q h1 h2 => by rw [e1, hk q (Nat.lt_of_lt_of_le h1 hS.1) (fun z => h2 (hA q (Nat.lt_of_lt_of_le h1 hS.1) z))]; exact hS.2.1 q h1 h2, fun q hq => by
      rcases List.mem_append.mp hq with h | h
      · exact hS.2.2 q h
      · exact hf _ (hL q h)⟩⟩
theorem vx_calli {S SX : Type} {post : Int32 → S → Prop} {px : SX → Prop} {B : S → State → Prop} {BX : String → SX → State → Prop} {AX : Nat → Prop} (hr : vx_Run p l e R s m args below meth c H locs cells slots mc ms (F0 m pc ls st0) rest (va_Qi post B A1 a) (vx_X px BX AX) free) (hS : va_S A0 H0 H locs) (hA : ∀ q, q < H.size → A1 q → A0 q) (hf : ∀ q, free q → A0 q) (hAX : ∀ q, q < H.size → AX q → A0 q)
    (kx : ∀ (E : String) (ce : Cell) (q9 : Addr) (u : SX) (t : State) (H1 : Heap) (locs1 : List Loc), t.heap = H1 → s.vm.Alike t.vm → px u → BX E u t → H.size ≤ H1.size → (∀ q : Nat, q < H.size → ¬ AX q → H1[q]? = H[q]?) → va_S A0 H0 H1 locs1 → H1[q9]? = some ce → ce.vm = .none → s.vm.findClass E = some ce.cls → vx_W p l e R s m args below meth c H1 locs1 (cells + mc) (slots + ms) Q (F0 m pc ls rest) q9)
    (kk : ∀ (r : Int32) (u : S) (t : State) (H1 : Heap) (locs1 : List Loc), t.heap = H1 → s.vm.Alike t.vm → post r u → B u t → H.size ≤ H1.size → (∀ q : Nat, q < H.size → ¬ A1 q → H1[q]? = H[q]?) → va_S A0 H0 H1 locs1 → W p l e R s m args below meth c H1 locs1 (cells + mc) (slots + ms) Q (F0 m (pc + 3) ls (.int r :: rest))) : W p l e R s m args below meth c H locs cells slots Q (F0 m pc ls st0) := by
  intro T hT X
  rcases hr T hT X with ⟨v, st₀, t, T', L, h0, X', hL, e1, e2, ⟨⟨r, u, hv, hp, hb⟩, hF⟩, st⟩ | ⟨q, st₀, t, T', L, E, ce, h0, X', hL, e1, e2, ⟨u, hp, hb, hF⟩, hce, hcv, hcl, st⟩
  · cases hv
    obtain ⟨k1, k2, k3⟩ := vx_keep h0 e1 hS hA hf hL hF
    obtain ⟨t2, a1, b1⟩ := kk r u t T'.heap (locs ++ L) e1.symm (by rw [← e2]; exact X'.warmed.alike) hp hb k1 k2 k3 T' rfl X'
    exact ⟨t2, st t2 a1, b1⟩
  · obtain ⟨k1, k2, k3⟩ := vx_keep h0 e1 hS hAX hf hL hF
    obtain ⟨t2, a1, b1⟩ := kx E ce q u t T'.heap (locs ++ L) e1.symm (by rw [← e2]; exact X'.warmed.alike) hp hb k1 k2 k3 (by rw [e1]; exact hce) hcv hcl T' rfl X'
    exact ⟨t2, st.trans a1, b1⟩
theorem vx_calll {S SX : Type} {post : Int64 → S → Prop} {px : SX → Prop} {B : S → State → Prop} {BX : String → SX → State → Prop} {AX : Nat → Prop} (hr : vx_Run p l e R s m args below meth c H locs cells slots mc ms (F0 m pc ls st0) rest (va_Ql post B A1 a) (vx_X px BX AX) free) (hS : va_S A0 H0 H locs) (hA : ∀ q, q < H.size → A1 q → A0 q) (hf : ∀ q, free q → A0 q) (hAX : ∀ q, q < H.size → AX q → A0 q)
    (kx : ∀ (E : String) (ce : Cell) (q9 : Addr) (u : SX) (t : State) (H1 : Heap) (locs1 : List Loc), t.heap = H1 → s.vm.Alike t.vm → px u → BX E u t → H.size ≤ H1.size → (∀ q : Nat, q < H.size → ¬ AX q → H1[q]? = H[q]?) → va_S A0 H0 H1 locs1 → H1[q9]? = some ce → ce.vm = .none → s.vm.findClass E = some ce.cls → vx_W p l e R s m args below meth c H1 locs1 (cells + mc) (slots + ms) Q (F0 m pc ls rest) q9)
    (kk : ∀ (r : Int64) (u : S) (t : State) (H1 : Heap) (locs1 : List Loc), t.heap = H1 → s.vm.Alike t.vm → post r u → B u t → H.size ≤ H1.size → (∀ q : Nat, q < H.size → ¬ A1 q → H1[q]? = H[q]?) → va_S A0 H0 H1 locs1 → W p l e R s m args below meth c H1 locs1 (cells + mc) (slots + ms) Q (F0 m (pc + 3) ls (.long r :: rest))) : W p l e R s m args below meth c H locs cells slots Q (F0 m pc ls st0) := by
  intro T hT X
  rcases hr T hT X with ⟨v, st₀, t, T', L, h0, X', hL, e1, e2, ⟨⟨r, u, hv, hp, hb⟩, hF⟩, st⟩ | ⟨q, st₀, t, T', L, E, ce, h0, X', hL, e1, e2, ⟨u, hp, hb, hF⟩, hce, hcv, hcl, st⟩
  · cases hv
    obtain ⟨k1, k2, k3⟩ := vx_keep h0 e1 hS hA hf hL hF
    obtain ⟨t2, a1, b1⟩ := kk r u t T'.heap (locs ++ L) e1.symm (by rw [← e2]; exact X'.warmed.alike) hp hb k1 k2 k3 T' rfl X'
    exact ⟨t2, st t2 a1, b1⟩
  · obtain ⟨k1, k2, k3⟩ := vx_keep h0 e1 hS hAX hf hL hF
    obtain ⟨t2, a1, b1⟩ := kx E ce q u t T'.heap (locs ++ L) e1.symm (by rw [← e2]; exact X'.warmed.alike) hp hb k1 k2 k3 (by rw [e1]; exact hce) hcv hcl T' rfl X'
    exact ⟨t2, st.trans a1, b1⟩
theorem vx_callf {S SX : Type} {post : UInt32 → S → Prop} {px : SX → Prop} {B : S → State → Prop} {BX : String → SX → State → Prop} {AX : Nat → Prop} (hr : vx_Run p l e R s m args below meth c H locs cells slots mc ms (F0 m pc ls st0) rest (va_Qf post B A1 a) (vx_X px BX AX) free) (hS : va_S A0 H0 H locs) (hA : ∀ q, q < H.size → A1 q → A0 q) (hf : ∀ q, free q → A0 q) (hAX : ∀ q, q < H.size → AX q → A0 q)
    (kx : ∀ (E : String) (ce : Cell) (q9 : Addr) (u : SX) (t : State) (H1 : Heap) (locs1 : List Loc), t.heap = H1 → s.vm.Alike t.vm → px u → BX E u t → H.size ≤ H1.size → (∀ q : Nat, q < H.size → ¬ AX q → H1[q]? = H[q]?) → va_S A0 H0 H1 locs1 → H1[q9]? = some ce → ce.vm = .none → s.vm.findClass E = some ce.cls → vx_W p l e R s m args below meth c H1 locs1 (cells + mc) (slots + ms) Q (F0 m pc ls rest) q9)
    (kk : ∀ (r : UInt32) (u : S) (t : State) (H1 : Heap) (locs1 : List Loc), t.heap = H1 → s.vm.Alike t.vm → post r u → B u t → H.size ≤ H1.size → (∀ q : Nat, q < H.size → ¬ A1 q → H1[q]? = H[q]?) → va_S A0 H0 H1 locs1 → W p l e R s m args below meth c H1 locs1 (cells + mc) (slots + ms) Q (F0 m (pc + 3) ls (.float r :: rest))) : W p l e R s m args below meth c H locs cells slots Q (F0 m pc ls st0) := by
  intro T hT X
  rcases hr T hT X with ⟨v, st₀, t, T', L, h0, X', hL, e1, e2, ⟨⟨r, u, hv, hp, hb⟩, hF⟩, st⟩ | ⟨q, st₀, t, T', L, E, ce, h0, X', hL, e1, e2, ⟨u, hp, hb, hF⟩, hce, hcv, hcl, st⟩
  · cases hv
    obtain ⟨k1, k2, k3⟩ := vx_keep h0 e1 hS hA hf hL hF
    obtain ⟨t2, a1, b1⟩ := kk r u t T'.heap (locs ++ L) e1.symm (by rw [← e2]; exact X'.warmed.alike) hp hb k1 k2 k3 T' rfl X'
    exact ⟨t2, st t2 a1, b1⟩
  · obtain ⟨k1, k2, k3⟩ := vx_keep h0 e1 hS hAX hf hL hF
    obtain ⟨t2, a1, b1⟩ := kx E ce q u t T'.heap (locs ++ L) e1.symm (by rw [← e2]; exact X'.warmed.alike) hp hb k1 k2 k3 (by rw [e1]; exact hce) hcv hcl T' rfl X'
    exact ⟨t2, st.trans a1, b1⟩
theorem vx_calld {S SX : Type} {post : UInt64 → S → Prop} {px : SX → Prop} {B : S → State → Prop} {BX : String → SX → State → Prop} {AX : Nat → Prop} (hr : vx_Run p l e R s m args below meth c H locs cells slots mc ms (F0 m pc ls st0) rest (va_Qd post B A1 a) (vx_X px BX AX) free) (hS : va_S A0 H0 H locs) (hA : ∀ q, q < H.size → A1 q → A0 q) (hf : ∀ q, free q → A0 q) (hAX : ∀ q, q < H.size → AX q → A0 q)
    (kx : ∀ (E : String) (ce : Cell) (q9 : Addr) (u : SX) (t : State) (H1 : Heap) (locs1 : List Loc), t.heap = H1 → s.vm.Alike t.vm → px u → BX E u t → H.size ≤ H1.size → (∀ q : Nat, q < H.size → ¬ AX q → H1[q]? = H[q]?) → va_S A0 H0 H1 locs1 → H1[q9]? = some ce → ce.vm = .none → s.vm.findClass E = some ce.cls → vx_W p l e R s m args below meth c H1 locs1 (cells + mc) (slots + ms) Q (F0 m pc ls rest) q9)
    (kk : ∀ (r : UInt64) (u : S) (t : State) (H1 : Heap) (locs1 : List Loc), t.heap = H1 → s.vm.Alike t.vm → post r u → B u t → H.size ≤ H1.size → (∀ q : Nat, q < H.size → ¬ A1 q → H1[q]? = H[q]?) → va_S A0 H0 H1 locs1 → W p l e R s m args below meth c H1 locs1 (cells + mc) (slots + ms) Q (F0 m (pc + 3) ls (.double r :: rest))) : W p l e R s m args below meth c H locs cells slots Q (F0 m pc ls st0) := by
  intro T hT X
  rcases hr T hT X with ⟨v, st₀, t, T', L, h0, X', hL, e1, e2, ⟨⟨r, u, hv, hp, hb⟩, hF⟩, st⟩ | ⟨q, st₀, t, T', L, E, ce, h0, X', hL, e1, e2, ⟨u, hp, hb, hF⟩, hce, hcv, hcl, st⟩
  · cases hv
    obtain ⟨k1, k2, k3⟩ := vx_keep h0 e1 hS hA hf hL hF
    obtain ⟨t2, a1, b1⟩ := kk r u t T'.heap (locs ++ L) e1.symm (by rw [← e2]; exact X'.warmed.alike) hp hb k1 k2 k3 T' rfl X'
    exact ⟨t2, st t2 a1, b1⟩
  · obtain ⟨k1, k2, k3⟩ := vx_keep h0 e1 hS hAX hf hL hF
    obtain ⟨t2, a1, b1⟩ := kx E ce q u t T'.heap (locs ++ L) e1.symm (by rw [← e2]; exact X'.warmed.alike) hp hb k1 k2 k3 (by rw [e1]; exact hce) hcv hcl T' rfl X'
    exact ⟨t2, st.trans a1, b1⟩
theorem vx_callv {S SX : Type} {post : S → Prop} {px : SX → Prop} {B : S → State → Prop} {BX : String → SX → State → Prop} {AX : Nat → Prop} (hr : vx_Run p l e R s m args below meth c H locs cells slots mc ms (F0 m pc ls st0) rest (va_Qv post B A1 a) (vx_X px BX AX) free) (hS : va_S A0 H0 H locs) (hA : ∀ q, q < H.size → A1 q → A0 q) (hf : ∀ q, free q → A0 q) (hAX : ∀ q, q < H.size → AX q → A0 q)
    (kx : ∀ (E : String) (ce : Cell) (q9 : Addr) (u : SX) (t : State) (H1 : Heap) (locs1 : List Loc), t.heap = H1 → s.vm.Alike t.vm → px u → BX E u t → H.size ≤ H1.size → (∀ q : Nat, q < H.size → ¬ AX q → H1[q]? = H[q]?) → va_S A0 H0 H1 locs1 → H1[q9]? = some ce → ce.vm = .none → s.vm.findClass E = some ce.cls → vx_W p l e R s m args below meth c H1 locs1 (cells + mc) (slots + ms) Q (F0 m pc ls rest) q9)
    (kk : ∀ (u : S) (t : State) (H1 : Heap) (locs1 : List Loc), t.heap = H1 → s.vm.Alike t.vm → post u → B u t → H.size ≤ H1.size → (∀ q : Nat, q < H.size → ¬ A1 q → H1[q]? = H[q]?) → va_S A0 H0 H1 locs1 → W p l e R s m args below meth c H1 locs1 (cells + mc) (slots + ms) Q (F0 m (pc + 3) ls (rest))) : W p l e R s m args below meth c H locs cells slots Q (F0 m pc ls st0) := by
  intro T hT X
  rcases hr T hT X with ⟨v, st₀, t, T', L, h0, X', hL, e1, e2, ⟨⟨u, hv, hp, hb⟩, hF⟩, st⟩ | ⟨q, st₀, t, T', L, E, ce, h0, X', hL, e1, e2, ⟨u, hp, hb, hF⟩, hce, hcv, hcl, st⟩
  · cases hv
    obtain ⟨k1, k2, k3⟩ := vx_keep h0 e1 hS hA hf hL hF
    obtain ⟨t2, a1, b1⟩ := kk u t T'.heap (locs ++ L) e1.symm (by rw [← e2]; exact X'.warmed.alike) hp hb k1 k2 k3 T' rfl X'
    exact ⟨t2, st t2 a1, b1⟩
  · obtain ⟨k1, k2, k3⟩ := vx_keep h0 e1 hS hAX hf hL hF
    obtain ⟨t2, a1, b1⟩ := kx E ce q u t T'.heap (locs ++ L) e1.symm (by rw [← e2]; exact X'.warmed.alike) hp hb k1 k2 k3 (by rw [e1]; exact hce) hcv hcl T' rfl X'
    exact ⟨t2, st.trans a1, b1⟩
end Rows
section Ends
variable {p : Program} {l : Launch} {e : Env} {R : Room} {s : State} {m : MethodId} {args : Array Value} {below : List Frame} {meth : Method} {c : Code} {H : Heap} {locs : List Loc} {cells slots : Nat} {Q : State → Prop}
variable {mc ms : Nat} {free : Addr → Prop} {A0 A1 : Nat → Prop} {H0 : Heap} {a : Array Value} {ls : Array Slot} {st0 rest : List Value}
variable {Qc : Array Value → State → Outcome → State → Prop} {XC : String → State → State → Prop}
/-- what a body that may throw owes at its end -/
def vx_MQ (below : List Frame) (Qc : Array Value → State → Outcome → State → Prop) (XC : String → State → State → Prop) (a : Array Value) (s : State) (mc ms : Nat) (free : Addr → Prop) : State → Prop := fun t =>
  ∃ o, t.status = .running ∧ Ended t below o ∧ vx_Q Qc XC mc ms free a s o t
theorem vx_ret {g : JFrame} {mc ms : Nat} (k : W p l e R s m args below meth c H locs cells slots (MQ below Qc args s mc ms free) g) : W p l e R s m args below meth c H locs cells slots (vx_MQ below Qc XC args s mc ms free) g := by
  intro T hT X
  obtain ⟨t, a1, o, b1, b2, b3, b4⟩ := k T hT X
  exact ⟨t, a1, o, b1, b2, Or.inl ⟨b3, b4⟩⟩
/-- not caught here: it goes on to the caller -/
theorem vx_widen {g : JFrame} {q : Addr} {k n : Nat} (h1 : cells ≤ k) (h2 : slots ≤ n) (kk : vx_W p l e R s m args below meth c H locs k n Q g q) : vx_W p l e R s m args below meth c H locs cells slots Q g q := fun T hT X => kk T hT (stand_widen X h1 h2)
theorem vx_out {pc : Nat} {E : String} {ce : Cell} {q : Addr} {mc ms : Nat} (hout : ∀ x ∈ c.exceptionTable.toList, covers x pc = false) (hlocks : meth.locks = false) (hcell : H[q]? = some ce) (hv : ce.vm = .none) (hcl : s.vm.findClass E = some ce.cls)
    (hx : ∀ t : State, t.heap = H → s.vm.Alike t.vm → XC E s t) (hf : ∀ z ∈ locs, free z.base) (hc : cells ≤ mc) (hs : slots ≤ ms) :
    vx_W p l e R s m args below meth c H locs cells slots (vx_MQ below Qc XC args s mc ms free) (F0 m pc ls rest) q := by
  intro T hT X
  obtain ⟨st1, hrun, hend, hW, hsm⟩ := X.leaveThrown q (g := F0 m pc ls rest) rfl rfl rfl hout hlocks
  have hcell9 : (T.setFrames (.throwing q :: below)).heap[q]? = some ce := by
    show T.heap[q]? = some ce
    rw [hT]; exact hcell
  exact ⟨_, st1, .threw q, hrun, hend, Or.inr ⟨q, rfl, E, ce, locs, hx _ hT hW.alike, hcell9, hv, hcl, hW, hsm.mono hc hs, hf⟩⟩
theorem vx_frame {U : State} {k n : Nat} (h : s.sameButNew ({ U with vm := s.vm } : State) locs k n) : s.heap.size ≤ U.heap.size ∧ ∀ q : Nat, q < s.heap.size → (∀ z ∈ locs, z.base ≠ q) → U.heap[q]? = s.heap[q]? := by
  obtain ⟨-, h2, -, -, -, h6⟩ := h
  refine ⟨h2, fun q hq hz => ?_⟩
  obtain ⟨c9, e1, e2, e3, e4⟩ := h6 q _ (Array.getElem?_eq_getElem hq)
  have hs : c9.slots = (s.heap[q]).slots := Array.ext_getElem? fun i => e4 i fun hm => hz _ hm rfl
  have h9 : c9 = s.heap[q] := by
    rw [hs] at e2
    exact e2
  have e5 : U.heap[q]? = some c9 := e1
  rw [e5, h9, Array.getElem?_eq_getElem hq]
/-- the words of a throw but the four that speak of the heap -/
def vx_no (w : Cond) : Bool := decide (w ≠ .isRef (.static Bundle.tN "UNASSIGNED_STACK" Bundle.steD)) && decide (w ≠ .isRef (.static Bundle.tN "SUPPRESSED_SENTINEL" Bundle.listD)) && decide (w ≠ .laysStatic Bundle.tN "UNASSIGNED_STACK" Bundle.steD) && decide (w ≠ .laysStatic Bundle.tN "SUPPRESSED_SENTINEL" Bundle.listD)
def vx_at0 (own : String) (ic : Nat) (X : String) (names : List String) : List Cond := (Bundle.ownAtoms0 own ic X names).filter vx_no
def vx_atS (own : String) (ic : Nat) (X : String) (names : List String) : List Cond := (Bundle.ownAtoms own ic X names).filter vx_no
/-- a word that the tables alone decide, or a good one -/
def vx_ot (w : Cond) : Bool := w.onTables || goodWord w
theorem vx_ot_at {args a' : Array Value} {s U : State} {w : Cond} (hW : s.WarmedH U.vm) (hvm : s.vm = U.vm) (hg : vx_ot w = true) (h : w.before args s = true) : w.before a' U = true := by
  simp only [vx_ot, Bool.or_eq_true] at hg
  rcases hg with hg | hg
  · exact va_tabs hg hvm h
  · exact word_at hW (good_of_word hg) h
/-- a list's words: the good ones out of the method's own list, the others by premises of their own -/
theorem vx_hat {args : Array Value} {s : State} {L B : List Cond} (h1 : ∀ w ∈ L.filter goodWord, w.before args s = true) (h2 : ∀ w ∈ L.filter (fun w => !goodWord w), w ∈ B) (h3 : ∀ w ∈ B, w.before args s = true) : ∀ w ∈ L, w.before args s = true := by
  intro w hw
  by_cases g : goodWord w = true
  · exact h1 w (List.mem_filter.mpr ⟨hw, g⟩)
  · refine h3 w (h2 w (List.mem_filter.mpr ⟨hw, ?_⟩))
    show (!goodWord w) = true
    cases hgw : goodWord w
    · rfl
    · exact absurd hgw g
theorem vx_c {args : Array Value} {s : State} {w : Cond} {B : List Cond} (h : w.before args s = true) (t : ∀ w ∈ B, w.before args s = true) : ∀ w' ∈ w :: B, w'.before args s = true := fun w' h' => (List.mem_cons.mp h').elim (fun e => by rw [e]; exact h) (t w')
theorem vx_n {args : Array Value} {s : State} : ∀ w ∈ ([] : List Cond), w.before args s = true := fun _ h => nomatch h
theorem vx_own {args : Array Value} {s : State} {L : List Cond} (h1 : ∀ w ∈ L.filter vx_no, w.before args s = true)
    (hU : (Cond.isRef (.static Bundle.tN "UNASSIGNED_STACK" Bundle.steD)).before args s = true) (hN : (Cond.isRef (.static Bundle.tN "SUPPRESSED_SENTINEL" Bundle.listD)).before args s = true)
    (lU : (Cond.laysStatic Bundle.tN "UNASSIGNED_STACK" Bundle.steD).before args s = true) (lN : (Cond.laysStatic Bundle.tN "SUPPRESSED_SENTINEL" Bundle.listD).before args s = true) : ∀ w ∈ L, w.before args s = true := by
  intro w hw
  by_cases e1 : w = .isRef (.static Bundle.tN "UNASSIGNED_STACK" Bundle.steD)
  · rw [e1]; exact hU
  · by_cases e2 : w = .isRef (.static Bundle.tN "SUPPRESSED_SENTINEL" Bundle.listD)
    · rw [e2]; exact hN
    · by_cases e3 : w = .laysStatic Bundle.tN "UNASSIGNED_STACK" Bundle.steD
      · rw [e3]; exact lU
      · by_cases e4 : w = .laysStatic Bundle.tN "SUPPRESSED_SENTINEL" Bundle.listD
        · rw [e4]; exact lN
        · exact h1 w (List.mem_filter.mpr ⟨hw, by unfold vx_no; rw [decide_eq_true e1, decide_eq_true e2, decide_eq_true e3, decide_eq_true e4]; rfl⟩)
/-- where a static field lies, its class's statics cell in H -/
def vx_L (C n d : String) (A : Nat → Prop) (U : State) (H : Heap) : Prop := ∃ (c : ClassId) (k : Class) (i : Nat) (f : Field) (a : Nat) (cell : Cell), U.vm.findClass C = some c ∧ U.fieldFound? C n d = some (c, k, i, f) ∧ f.isStatic = true ∧ k.statics = some a ∧ H[a]? = some cell ∧ cell.vm.isStatics = true ∧ cell.cls = c ∧ f.slot < cell.slots.size ∧ k.staticTypes[f.slot]? = some f.type ∧ ¬ A a
theorem vx_L.moved {C n d : String} {A : Nat → Prop} {u U : State} {H : Heap} (hvm : u.vm.Alike U.vm) (h : vx_L C n d A u H) : vx_L C n d A U H := by
  obtain ⟨c, k, i, f, a, cell, h1, h2, h3, h4, h5, h6, h7, h8, h9, h10⟩ := h
  obtain ⟨k', hi', he⟩ := State.fieldFound?_setVm hvm h2
  exact ⟨c, k', i, f, a, cell, by rw [hvm.findClass]; exact h1, hi', h3, by rw [he]; exact h4, h5, h6, h7, h8, by rw [he]; exact h9, h10⟩
theorem vx_L.kept {C n d : String} {A : Nat → Prop} {U : State} {H H1 : Heap} (h : vx_L C n d A U H) (hq : ∀ a : Nat, a < H.size → ¬ A a → H1[a]? = H[a]?) : vx_L C n d A U H1 := by
  obtain ⟨c, k, i, f, a, cell, h1, h2, h3, h4, h5, h6, h7, h8, h9, h10⟩ := h
  exact ⟨c, k, i, f, a, cell, h1, h2, h3, h4, by rw [hq a (Array.getElem?_eq_some_iff.mp h5).1 h10]; exact h5, h6, h7, h8, h9, h10⟩
theorem vx_L.narrow {C n d : String} {A B : Nat → Prop} {U : State} {H : Heap} (h : vx_L C n d A U H) (hAB : ∀ q, B q → A q) : vx_L C n d B U H := by
  obtain ⟨c, k, i, f, a, cell, h1, h2, h3, h4, h5, h6, h7, h8, h9, h10⟩ := h
  exact ⟨c, k, i, f, a, cell, h1, h2, h3, h4, h5, h6, h7, h8, h9, fun z => h10 (hAB _ z)⟩
theorem vx_L.word {C n d : String} {A : Nat → Prop} {s : State} {args : Array Value} (h : vx_L C n d A s s.heap) : (Cond.laysStatic C n d).before args s = true := by
  obtain ⟨c, k, i, f, a, cell, h1, h2, h3, h4, h5, h6, h7, h8, h9, -⟩ := h
  show (Cond.laysStatic C n d).holds args s none s [] = true
  exact Cond.laysStatic_of h1 h2 h3 h4 h5 h6 h7 h8 h9
/-- .. and what it holds: null or some reference -/
def vx_Zq (C n d : String) (A : Nat → Prop) (U : State) (H : Heap) : Prop := va_Zq C n d A U H ∧ vx_L C n d A U H
theorem vx_Zq.moved {C n d : String} {A : Nat → Prop} {u U : State} {H : Heap} (hvm : u.vm.Alike U.vm) (h : vx_Zq C n d A u H) : vx_Zq C n d A U H := ⟨va_Zq.moved hvm h.1, vx_L.moved hvm h.2⟩
theorem vx_Zq.kept {C n d : String} {A : Nat → Prop} {U : State} {H H1 : Heap} (h : vx_Zq C n d A U H) (hq : ∀ a : Nat, a < H.size → ¬ A a → H1[a]? = H[a]?) : vx_Zq C n d A U H1 := ⟨va_Zq.kept h.1 hq, vx_L.kept h.2 hq⟩
theorem vx_Zq.narrow {C n d : String} {A B : Nat → Prop} {U : State} {H : Heap} (h : vx_Zq C n d A U H) (hAB : ∀ q, B q → A q) : vx_Zq C n d B U H := ⟨va_Zq.narrow h.1 hAB, vx_L.narrow h.2 hAB⟩
theorem vx_Zqof {args : Array Value} {s : State} {C n d : String} {A : Nat → Prop} (hl : (Cond.laysStatic C n d).before args s = true) (hini : (Cond.initialized C).before args s = true) (h : (Cond.isRef (.static C n d)).before args s = true) (hA : ∀ a : Nat, a < s.heap.size → ¬ A a) : vx_Zq C n d A s s.heap := by
  refine ⟨va_Zqof hl hini h hA, ?_⟩
  obtain ⟨c, k, i, f, a, cell, h1, h2, h3, h4, h5, h6, h7, h8, h9⟩ := Cond.laysStatic_spec hl
  exact ⟨c, k, i, f, a, cell, h1, h2, h3, h4, h5, h6, h7, h8, h9, hA a (Array.getElem?_eq_some_iff.mp h5).1⟩
theorem vx_isRef {C n d : String} {v : Value} {A : Nat → Prop} {s : State} {args : Array Value} (h : va_Z C n d v A s s.heap) (hv : v.isRef = true) : (Cond.isRef (.static C n d)).before args s = true := by
  obtain ⟨cf, kf, fi, f, a, cell, h1, h2, h3, h4, h5, h6, h7, -⟩ := h
  have he : (Term.static C n d).eval args s none [] s = some v := by
    simp [Term.eval, State.fieldNamed?, h1, h2, h4, h5, h6, h7]
  simp only [Cond.before, Cond.holds, Cond.value, he]
  cases v <;> simp_all [Value.isRef]
theorem vx_isRefq {C n d : String} {A : Nat → Prop} {s : State} {args : Array Value} (h : va_Zq C n d A s s.heap) : (Cond.isRef (.static C n d)).before args s = true := by
  rcases h with h | ⟨t, h⟩
  · exact vx_isRef h rfl
  · exact vx_isRef h rfl
/-- the same frame, seen from here: as if the method were called anew in this heap -/
theorem vx_rebase {T : State} (X : Stand p l e R s m args below meth c T locs cells slots) {R' : Room} (hf : R'.frames ≤ R.frames) (hl : R'.locals ≤ R.locals) (hc : cells + R'.cells ≤ R.cells) (hs : slots + R'.slots ≤ R.slots) :
    Stand p l e R' ((T.setVm s.vm).setFrames (.invoking m args :: below)) m args below meth c T [] 0 0 := by
  have htop : (T.setVm s.vm).topJava?.isSome := X.here.top
  have hF : ((T.setVm s.vm).setFrames (.invoking m args :: below)).frames = .invoking m args :: below := State.frames_setFrames _ (State.cur_lt_of_top htop)
  obtain ⟨g₀, hg0⟩ := Option.isSome_iff_exists.mp htop
  obtain ⟨r, hr⟩ := State.topJava?_eq_some.mp hg0
  have hl9 : e.platform.stackLimits (T.setVm s.vm).me = e.platform.stackLimits s.me := X.limits
  have hb9 : (T.setVm s.vm).me.stackBytes = s.me.stackBytes := X.bytes
  refine ⟨X.admits, X.cas, X.clock, hF, ?_, X.hears, X.method, X.code, X.here, X.tail, X.warmed, ?_, ?_, ?_⟩
  · have h := X.room
    have hU : ((T.setVm s.vm).setFrames (.invoking m args :: below)).localsInUse = s.localsInUse := by
      rw [State.localsInUse_invoking hF (meth := meth) (c := c) X.method X.code, State.localsInUse_invoking X.frames X.method X.code]
    simp only [State.hasRoom, Bool.and_eq_true, decide_eq_true_eq] at h ⊢
    obtain ⟨⟨⟨⟨h1, h2, h3, h4, h5, h6⟩, h7⟩, h8⟩, h9⟩ := h
    rw [X.frames, List.length_cons] at h2 h3
    have q1 := X.heapSize
    have q2 := X.used
    simp only [hF, hU, List.length_cons, State.stackLimits_setFrames, State.stackBytes_setFrames, hl9, hb9]
    refine ⟨⟨⟨⟨by omega, by omega, by omega, by omega, by omega, h6⟩, ?_⟩, ?_⟩, X.book⟩
    · show T.heap.size + R'.cells ≤ e.platform.maxCells
      omega
    · show T.slotsUsed + R'.slots ≤ e.platform.maxSlots
      omega
  · rw [State.stackLimits_setFrames]; rfl
  · rw [State.stackBytes_setFrames]; rfl
  · refine ⟨?_, Nat.le_refl _, Nat.le_refl _, ?_, ?_, fun a c9 h9 => ⟨c9, h9, rfl, rfl, fun _ _ => rfl⟩⟩
    · obtain ⟨t, ht, -⟩ := State.frames_cons hr
      show T.setVm s.vm = { ((T.setVm s.vm).setFrames (.invoking m args :: below)).setFrames (T.setVm s.vm).frames with heap := T.heap, slotsUsed := T.slotsUsed }
      rw [State.setFrames_setFrames, State.setFrames_self ht]
      rfl
    · show T.slotsUsed = T.slotsUsed + ((T.heap.toList.drop T.heap.size).map (·.slots.size)).sum
      rw [List.drop_eq_nil_of_le (Nat.le_of_eq Array.length_toList)]
      rfl
    · show ((T.heap.toList.drop T.heap.size).map (·.slots.size)).sum ≤ 0
      rw [List.drop_eq_nil_of_le (Nat.le_of_eq Array.length_toList)]
      exact Nat.le_refl _
/-- 'throw new E()': new; dup; invokespecial; athrow -/
theorem vx_throw0 {cc : ByteArray} {pc : Nat} (hexec : p.tables.exec = Jvm.exec) (hb : c.code = cc) (hl : l.stackTraces = false) {own cls : String} {names : List String} {ik ic mc ms : Nat} {A : Nat → Prop}
    (hown : s.vm.findClass own = some m.cls) (hcls : Bundle.fit cls = true) (hnames : ∀ n ∈ names, Bundle.fit n = true)
    (hk : (Cond.classLink own ik cls).before args s = true) (hini : (Cond.initialized cls).before args s = true) (hat : ∀ w ∈ vx_at0 own ic cls names, w.before args s = true)
    (hgood : ∀ w ∈ Cond.classLink own ik cls :: Cond.initialized cls :: vx_at0 own ic cls names, vx_ot w = true)
    (hU : vx_Zq Bundle.tN "UNASSIGNED_STACK" Bundle.steD A s s.heap) (hN : vx_Zq Bundle.tN "SUPPRESSED_SENTINEL" Bundle.listD A s s.heap) (hS : va_S A s.heap H locs) (hsize : ls.size = c.maxLocals)
    (d0 : decode cc pc = .ok (.new ik, 3)) (d3 : decode cc (pc + 3) = .ok (.dup, 1)) (d4 : decode cc (pc + 4) = .ok (.invokespecial ic, 3)) (d7 : decode cc (pc + 7) = .ok (.athrow, 1))
    (hout : ∀ x ∈ c.exceptionTable.toList, covers x (pc + 7) = false)
    (hRframes : names.length + 3 < R.frames) (hRlocals : (rest.map fun v => v.category).sum + (13 * (names.length + 1) + 42) ≤ R.locals) (hRcells : cells + 1 ≤ R.cells) (hRslots : slots + 6 ≤ R.slots) (hlocks : meth.locks = false)
    (hx : ∀ t : State, s.vm.Alike t.vm → H.size ≤ t.heap.size → (∀ q : Nat, q < H.size → t.heap[q]? = H[q]?) → XC cls s t)
    (hf : ∀ z ∈ locs, free z.base) (hc : cells + 1 ≤ mc) (hs : slots + 6 ≤ ms) :
    W p l e R s m args below meth c H locs cells slots (vx_MQ below Qc XC args s mc ms free) (F0 m pc ls rest) := by
  intro T hT X
  have htr : e.platform.stackTraces = false := (show e.platform.stackTraces = l.stackTraces by rw [X.admits.platform]).trans hl
  have Y := vx_rebase X (R' := { frames := R.frames, locals := R.locals, cells := 1, slots := 6 }) (Nat.le_refl _) (Nat.le_refl _) hRcells hRslots
  obtain ⟨s', hA⟩ : ∃ z, z = (T.setVm s.vm).setFrames (.invoking m args :: below) := ⟨_, rfl⟩
  rw [← hA] at Y
  have hvm : s'.vm = s.vm := by rw [hA]; rfl
  have hhp : s'.heap = H := by rw [hA]; exact hT
  have hW0 : s.WarmedH s'.vm := by rw [hvm]; exact State.WarmedH.refl s
  have hat' : ∀ w ∈ vx_at0 own ic cls names, w.before args s' = true := fun w hw => vx_ot_at hW0 hvm.symm (hgood w (List.mem_cons_of_mem _ (List.mem_cons_of_mem _ hw))) (hat w hw)
  have hk' : (Cond.classLink own ik cls).before args s' = true := vx_ot_at hW0 hvm.symm (hgood _ List.mem_cons_self) hk
  have hini' : (Cond.initialized cls).before args s' = true := vx_ot_at hW0 hvm.symm (hgood _ (List.mem_cons_of_mem _ List.mem_cons_self)) hini
  have hU' : vx_Zq Bundle.tN "UNASSIGNED_STACK" Bundle.steD A s' s'.heap := by rw [hhp]; exact vx_Zq.moved hW0.alike (hU.kept hS.2.1)
  have hN' : vx_Zq Bundle.tN "SUPPRESSED_SENTINEL" Bundle.listD A s' s'.heap := by rw [hhp]; exact vx_Zq.moved hW0.alike (hN.kept hS.2.1)
  have h : ∀ w ∈ Bundle.ownAtoms0 own ic cls names, w.before args s' = true := vx_own hat' (vx_isRefq hU'.1) (vx_isRefq hN'.1) hU'.2.word hN'.2.word
  have hown' : s'.vm.findClass own = some m.cls := by rw [hvm]; exact hown
  have hins : (Cond.instantiable cls 6).before args s' = true := h _ (by simp [Bundle.ownAtoms0])
  obtain ⟨vm₁, cX, kX, hfX, hkX, -, -, X₁, st1⟩ := Y.newCold hexec (own := own) (C := cls) (index := ik) (n := 6) hown' hk' hins hini'
    (g := F0 m pc ls rest) rfl (by rw [hb]; exact d0) (Nat.le_refl _) (Nat.le_refl _)
  generalize hT1 : (T.setVm vm₁).pushCell { cls := cX, slots := kX.instanceTypes.map defaultValue, vm := .none } = T1 at X₁ st1
  have hcat : (Value.ref T.heap.size).category = 1 := rfl
  have hcellA : T1.heap[T.heap.size]? = some (freshCell cX kX) := by rw [← hT1]; exact State.heap_pushCell_size _ _
  have d3' : decode c.code (pc + 3) = .ok (.dup, 1) := by rw [hb]; exact d3
  obtain ⟨U, hsteps, hrun, hend, hW, hsame, ce, hce, hO⟩ := X₁.ctorThrow0 hexec htr (own := own) (cls := cls) (names := names) (ic := ic) hown' hcls hnames h (fun x hx => nomatch hx) hfX hkX hcellA (by rw [hhp, hT]; exact Nat.le_refl _)
    (g := { method := m, pc := pc + 4, locals := ls, stack := .ref T.heap.size :: .ref T.heap.size :: rest, locked := none }) rfl hsize rfl rfl (rest := rest) rfl
    (by rw [hb]; exact d4) (by rw [hb]; exact d7) hout hRframes (by simp only [List.map_cons, List.sum_cons, hcat]; omega) hlocks
  obtain ⟨f1, f2⟩ := vx_frame hsame
  rw [hhp] at f1 f2
  have hWs : s.WarmedH U.vm := State.WarmedH.trans hW0 hW
  have hcl : s.vm.findClass cls = some ce.cls := by
    have h9 := hO.cls
    rw [hvm] at h9
    exact h9
  have hall : s.sameButNew ({ U with vm := s.vm } : State) locs mc ms := by
    subst hA
    obtain ⟨e1, e2⟩ := hsame
    rw [State.setFrames_setFrames] at e1
    have h2 : (T.setVm s.vm).sameButNew ({ U with vm := s.vm } : State) [] (0 + 1) (0 + 6) := ⟨e1, e2⟩
    have h3 := X.same.trans h2
    rw [List.append_nil] at h3
    exact h3.mono hc hs
  refine ⟨U, ?_, .threw T.heap.size, hrun, hend, Or.inr ⟨T.heap.size, rfl, cls, ce, locs, hx U hWs.alike f1 (fun q hq => f2 q hq (fun z hz => nomatch hz)), hce, hO.vm, hcl, hWs, hall, hf⟩⟩
  refine st1 _ ?_
  show Steps p.tables e below (T1.setTop { method := m, pc := pc + 3, locals := ls, stack := .ref T.heap.size :: rest, locked := none }) _
  jvm_step X₁.here [X₁.here.top, hexec, d3', Value.category]
  exact hsteps
/-- 'throw new E("text")': new; dup; ldc; invokespecial; athrow -/
theorem vx_throwS {cc : ByteArray} {pc : Nat} (hexec : p.tables.exec = Jvm.exec) (hb : c.code = cc) (hl : l.stackTraces = false) {own cls text : String} {names : List String} {ik is ic mc ms sa : Nat} {A : Nat → Prop}
    (hown : s.vm.findClass own = some m.cls) (hcls : Bundle.fit cls = true) (hnames : ∀ n ∈ names, Bundle.fit n = true)
    (hk : (Cond.classLink own ik cls).before args s = true) (hini : (Cond.initialized cls).before args s = true) (hstr : vk_R own is text sa s) (hat : ∀ w ∈ vx_atS own ic cls names, w.before args s = true)
    (hgood : ∀ w ∈ Cond.classLink own ik cls :: Cond.initialized cls :: vx_atS own ic cls names, vx_ot w = true)
    (hU : vx_Zq Bundle.tN "UNASSIGNED_STACK" Bundle.steD A s s.heap) (hN : vx_Zq Bundle.tN "SUPPRESSED_SENTINEL" Bundle.listD A s s.heap) (hS : va_S A s.heap H locs) (hsize : ls.size = c.maxLocals)
    (d0 : decode cc pc = .ok (.new ik, 3)) (d3 : decode cc (pc + 3) = .ok (.dup, 1)) (d4 : decode cc (pc + 4) = .ok (.ldc is, 2)) (d6 : decode cc (pc + 6) = .ok (.invokespecial ic, 3)) (d9 : decode cc (pc + 9) = .ok (.athrow, 1))
    (hout : ∀ x ∈ c.exceptionTable.toList, covers x (pc + 9) = false)
    (hRframes : names.length + 3 < R.frames) (hRlocals : (rest.map fun v => v.category).sum + (13 * (names.length + 1) + 43) ≤ R.locals) (hRcells : cells + 1 ≤ R.cells) (hRslots : slots + 6 ≤ R.slots) (hlocks : meth.locks = false)
    (hx : ∀ t : State, s.vm.Alike t.vm → H.size ≤ t.heap.size → (∀ q : Nat, q < H.size → t.heap[q]? = H[q]?) → XC cls s t)
    (hf : ∀ z ∈ locs, free z.base) (hc : cells + 1 ≤ mc) (hs : slots + 6 ≤ ms) :
    W p l e R s m args below meth c H locs cells slots (vx_MQ below Qc XC args s mc ms free) (F0 m pc ls rest) := by
  intro T hT X
  have htr : e.platform.stackTraces = false := (show e.platform.stackTraces = l.stackTraces by rw [X.admits.platform]).trans hl
  have Y := vx_rebase X (R' := { frames := R.frames, locals := R.locals, cells := 1, slots := 6 }) (Nat.le_refl _) (Nat.le_refl _) hRcells hRslots
  obtain ⟨s', hA⟩ : ∃ z, z = (T.setVm s.vm).setFrames (.invoking m args :: below) := ⟨_, rfl⟩
  rw [← hA] at Y
  have hvm : s'.vm = s.vm := by rw [hA]; rfl
  have hhp : s'.heap = H := by rw [hA]; exact hT
  have hW0 : s.WarmedH s'.vm := by rw [hvm]; exact State.WarmedH.refl s
  have hat' : ∀ w ∈ vx_atS own ic cls names, w.before args s' = true := fun w hw => vx_ot_at hW0 hvm.symm (hgood w (List.mem_cons_of_mem _ (List.mem_cons_of_mem _ hw))) (hat w hw)
  have hk' : (Cond.classLink own ik cls).before args s' = true := vx_ot_at hW0 hvm.symm (hgood _ List.mem_cons_self) hk
  have hini' : (Cond.initialized cls).before args s' = true := vx_ot_at hW0 hvm.symm (hgood _ (List.mem_cons_of_mem _ List.mem_cons_self)) hini
  have hU' : vx_Zq Bundle.tN "UNASSIGNED_STACK" Bundle.steD A s' s'.heap := by rw [hhp]; exact vx_Zq.moved hW0.alike (hU.kept hS.2.1)
  have hN' : vx_Zq Bundle.tN "SUPPRESSED_SENTINEL" Bundle.listD A s' s'.heap := by rw [hhp]; exact vx_Zq.moved hW0.alike (hN.kept hS.2.1)
  have h : ∀ w ∈ Bundle.ownAtoms own ic cls names, w.before args s' = true := vx_own hat' (vx_isRefq hU'.1) (vx_isRefq hN'.1) hU'.2.word hN'.2.word
  have hown' : s'.vm.findClass own = some m.cls := by rw [hvm]; exact hown
  have hins : (Cond.instantiable cls 6).before args s' = true := h _ (by simp [Bundle.ownAtoms])
  obtain ⟨vm₁, cX, kX, hfX, hkX, -, -, X₁, st1⟩ := Y.newCold hexec (own := own) (C := cls) (index := ik) (n := 6) hown' hk' hins hini'
    (g := F0 m pc ls rest) rfl (by rw [hb]; exact d0) (Nat.le_refl _) (Nat.le_refl _)
  generalize hT1 : (T.setVm vm₁).pushCell { cls := cX, slots := kX.instanceTypes.map defaultValue, vm := .none } = T1 at X₁ st1
  have hcat : (Value.ref T.heap.size).category = 1 := rfl
  have hcellA : T1.heap[T.heap.size]? = some (freshCell cX kX) := by rw [← hT1]; exact State.heap_pushCell_size _ _
  have d3' : decode c.code (pc + 3) = .ok (.dup, 1) := by rw [hb]; exact d3
  have d4' : decode c.code (pc + 4) = .ok (.ldc is, 2) := by rw [hb]; exact d4
  have hstr' : vk_R own is text sa s' := vk_R.warm hW0 hstr
  obtain ⟨U, hsteps, hrun, hend, hW, hsame, ce, hce, hO⟩ := X₁.ctorThrowS hexec htr (own := own) (cls := cls) (names := names) (ic := ic) hown' hcls hnames h (fun x hx => nomatch hx) hfX hkX hcellA (by rw [hhp, hT]; exact Nat.le_refl _) (msg := .ref sa) rfl
    (g := { method := m, pc := pc + 6, locals := ls, stack := .ref sa :: .ref T.heap.size :: .ref T.heap.size :: rest, locked := none }) rfl hsize rfl rfl (rest := rest) rfl
    (by rw [hb]; exact d6) (by rw [hb]; exact d9) hout hRframes (by simp only [List.map_cons, List.sum_cons, hcat]; omega) hlocks
  obtain ⟨f1, f2⟩ := vx_frame hsame
  rw [hhp] at f1 f2
  have hWs : s.WarmedH U.vm := State.WarmedH.trans hW0 hW
  have hcl : s.vm.findClass cls = some ce.cls := by
    have h9 := hO.cls
    rw [hvm] at h9
    exact h9
  have hall : s.sameButNew ({ U with vm := s.vm } : State) locs mc ms := by
    subst hA
    obtain ⟨e1, e2⟩ := hsame
    rw [State.setFrames_setFrames] at e1
    have h2 : (T.setVm s.vm).sameButNew ({ U with vm := s.vm } : State) [] (0 + 1) (0 + 6) := ⟨e1, e2⟩
    have h3 := X.same.trans h2
    rw [List.append_nil] at h3
    exact h3.mono hc hs
  refine ⟨U, ?_, .threw T.heap.size, hrun, hend, Or.inr ⟨T.heap.size, rfl, cls, ce, locs, hx U hWs.alike f1 (fun q hq => f2 q hq (fun z hz => nomatch hz)), hce, hO.vm, hcl, hWs, hall, hf⟩⟩
  refine st1 _ ?_
  show Steps p.tables e below (T1.setTop { method := m, pc := pc + 3, locals := ls, stack := .ref T.heap.size :: rest, locked := none }) _
  jvm_step X₁.here [X₁.here.top, hexec, d3', Value.category]
  exact X₁.ldcString hexec (own := own) (text := text) (index := is) (a := sa) hown' hstr'.1 hstr'.2
    (g := { method := m, pc := pc + 4, locals := ls, stack := .ref T.heap.size :: .ref T.heap.size :: rest, locked := none }) rfl d4' _ hsteps
/-- 'throw new E("text")', the text by a wide index -/
theorem vx_throwSW {cc : ByteArray} {pc : Nat} (hexec : p.tables.exec = Jvm.exec) (hb : c.code = cc) (hl : l.stackTraces = false) {own cls text : String} {names : List String} {ik is ic mc ms sa : Nat} {A : Nat → Prop}
    (hown : s.vm.findClass own = some m.cls) (hcls : Bundle.fit cls = true) (hnames : ∀ n ∈ names, Bundle.fit n = true)
    (hk : (Cond.classLink own ik cls).before args s = true) (hini : (Cond.initialized cls).before args s = true) (hstr : vk_R own is text sa s) (hat : ∀ w ∈ vx_atS own ic cls names, w.before args s = true)
    (hgood : ∀ w ∈ Cond.classLink own ik cls :: Cond.initialized cls :: vx_atS own ic cls names, vx_ot w = true)
    (hU : vx_Zq Bundle.tN "UNASSIGNED_STACK" Bundle.steD A s s.heap) (hN : vx_Zq Bundle.tN "SUPPRESSED_SENTINEL" Bundle.listD A s s.heap) (hS : va_S A s.heap H locs) (hsize : ls.size = c.maxLocals)
    (d0 : decode cc pc = .ok (.new ik, 3)) (d3 : decode cc (pc + 3) = .ok (.dup, 1)) (d4 : decode cc (pc + 4) = .ok (.ldc_w is, 3)) (d7 : decode cc (pc + 7) = .ok (.invokespecial ic, 3)) (d10 : decode cc (pc + 10) = .ok (.athrow, 1))
    (hout : ∀ x ∈ c.exceptionTable.toList, covers x (pc + 10) = false)
    (hRframes : names.length + 3 < R.frames) (hRlocals : (rest.map fun v => v.category).sum + (13 * (names.length + 1) + 43) ≤ R.locals) (hRcells : cells + 1 ≤ R.cells) (hRslots : slots + 6 ≤ R.slots) (hlocks : meth.locks = false)
    (hx : ∀ t : State, s.vm.Alike t.vm → H.size ≤ t.heap.size → (∀ q : Nat, q < H.size → t.heap[q]? = H[q]?) → XC cls s t)
    (hf : ∀ z ∈ locs, free z.base) (hc : cells + 1 ≤ mc) (hs : slots + 6 ≤ ms) :
    W p l e R s m args below meth c H locs cells slots (vx_MQ below Qc XC args s mc ms free) (F0 m pc ls rest) := by
  intro T hT X
  have htr : e.platform.stackTraces = false := (show e.platform.stackTraces = l.stackTraces by rw [X.admits.platform]).trans hl
  have Y := vx_rebase X (R' := { frames := R.frames, locals := R.locals, cells := 1, slots := 6 }) (Nat.le_refl _) (Nat.le_refl _) hRcells hRslots
  obtain ⟨s', hA⟩ : ∃ z, z = (T.setVm s.vm).setFrames (.invoking m args :: below) := ⟨_, rfl⟩
  rw [← hA] at Y
  have hvm : s'.vm = s.vm := by rw [hA]; rfl
  have hhp : s'.heap = H := by rw [hA]; exact hT
  have hW0 : s.WarmedH s'.vm := by rw [hvm]; exact State.WarmedH.refl s
  have hat' : ∀ w ∈ vx_atS own ic cls names, w.before args s' = true := fun w hw => vx_ot_at hW0 hvm.symm (hgood w (List.mem_cons_of_mem _ (List.mem_cons_of_mem _ hw))) (hat w hw)
  have hk' : (Cond.classLink own ik cls).before args s' = true := vx_ot_at hW0 hvm.symm (hgood _ List.mem_cons_self) hk
  have hini' : (Cond.initialized cls).before args s' = true := vx_ot_at hW0 hvm.symm (hgood _ (List.mem_cons_of_mem _ List.mem_cons_self)) hini
  have hU' : vx_Zq Bundle.tN "UNASSIGNED_STACK" Bundle.steD A s' s'.heap := by rw [hhp]; exact vx_Zq.moved hW0.alike (hU.kept hS.2.1)
  have hN' : vx_Zq Bundle.tN "SUPPRESSED_SENTINEL" Bundle.listD A s' s'.heap := by rw [hhp]; exact vx_Zq.moved hW0.alike (hN.kept hS.2.1)
  have h : ∀ w ∈ Bundle.ownAtoms own ic cls names, w.before args s' = true := vx_own hat' (vx_isRefq hU'.1) (vx_isRefq hN'.1) hU'.2.word hN'.2.word
  have hown' : s'.vm.findClass own = some m.cls := by rw [hvm]; exact hown
  have hins : (Cond.instantiable cls 6).before args s' = true := h _ (by simp [Bundle.ownAtoms])
  obtain ⟨vm₁, cX, kX, hfX, hkX, -, -, X₁, st1⟩ := Y.newCold hexec (own := own) (C := cls) (index := ik) (n := 6) hown' hk' hins hini'
    (g := F0 m pc ls rest) rfl (by rw [hb]; exact d0) (Nat.le_refl _) (Nat.le_refl _)
  generalize hT1 : (T.setVm vm₁).pushCell { cls := cX, slots := kX.instanceTypes.map defaultValue, vm := .none } = T1 at X₁ st1
  have hcat : (Value.ref T.heap.size).category = 1 := rfl
  have hcellA : T1.heap[T.heap.size]? = some (freshCell cX kX) := by rw [← hT1]; exact State.heap_pushCell_size _ _
  have d3' : decode c.code (pc + 3) = .ok (.dup, 1) := by rw [hb]; exact d3
  have d4' : decode c.code (pc + 4) = .ok (.ldc_w is, 3) := by rw [hb]; exact d4
  have hstr' : vk_R own is text sa s' := vk_R.warm hW0 hstr
  obtain ⟨U, hsteps, hrun, hend, hW, hsame, ce, hce, hO⟩ := X₁.ctorThrowS hexec htr (own := own) (cls := cls) (names := names) (ic := ic) hown' hcls hnames h (fun x hx => nomatch hx) hfX hkX hcellA (by rw [hhp, hT]; exact Nat.le_refl _) (msg := .ref sa) rfl
    (g := { method := m, pc := pc + 7, locals := ls, stack := .ref sa :: .ref T.heap.size :: .ref T.heap.size :: rest, locked := none }) rfl hsize rfl rfl (rest := rest) rfl
    (by rw [hb]; exact d7) (by rw [hb]; exact d10) hout hRframes (by simp only [List.map_cons, List.sum_cons, hcat]; omega) hlocks
  obtain ⟨f1, f2⟩ := vx_frame hsame
  rw [hhp] at f1 f2
  have hWs : s.WarmedH U.vm := State.WarmedH.trans hW0 hW
  have hcl : s.vm.findClass cls = some ce.cls := by
    have h9 := hO.cls
    rw [hvm] at h9
    exact h9
  have hall : s.sameButNew ({ U with vm := s.vm } : State) locs mc ms := by
    subst hA
    obtain ⟨e1, e2⟩ := hsame
    rw [State.setFrames_setFrames] at e1
    have h2 : (T.setVm s.vm).sameButNew ({ U with vm := s.vm } : State) [] (0 + 1) (0 + 6) := ⟨e1, e2⟩
    have h3 := X.same.trans h2
    rw [List.append_nil] at h3
    exact h3.mono hc hs
  refine ⟨U, ?_, .threw T.heap.size, hrun, hend, Or.inr ⟨T.heap.size, rfl, cls, ce, locs, hx U hWs.alike f1 (fun q hq => f2 q hq (fun z hz => nomatch hz)), hce, hO.vm, hcl, hWs, hall, hf⟩⟩
  refine st1 _ ?_
  show Steps p.tables e below (T1.setTop { method := m, pc := pc + 3, locals := ls, stack := .ref T.heap.size :: rest, locked := none }) _
  jvm_step X₁.here [X₁.here.top, hexec, d3', Value.category]
  exact X₁.ldcStringW hexec (own := own) (text := text) (index := is) (a := sa) hown' hstr'.1 hstr'.2
    (g := { method := m, pc := pc + 4, locals := ls, stack := .ref T.heap.size :: .ref T.heap.size :: rest, locked := none }) rfl d4' _ hsteps
end Ends
section Bodies
variable {l : Launch}
theorem vx_ofW {y : MethodName} {ws ws' : List Cond} {rm : Room} {Pc : Array Value → State → Prop} {Qc : Array Value → State → Outcome → State → Prop} {XC : String → State → State → Prop} {mc ms : Nat} {free : Addr → Prop} {cc : ByteArray} {maxL : Nat} {ret : Option FieldType}
    (hy : plainName y.cls = true) (hw : ws = Cond.code y cc maxL ret :: ws')
    (body : ∀ p e s m args below meth c s₁, BodyLoose p l y (headSpec ws rm) cc maxL ret e s m args below meth c s₁ → c.maxLocals = maxL → (∀ x ∈ c.exceptionTable.toList, False) → Pc args s →
      W p l e (headSpec ws rm).room s m args below meth c s.heap [] 0 0 (vx_MQ below Qc XC args s mc ms free) (entryFrame m args maxL)) : vx_Met l y ws rm Pc Qc XC mc ms free := by
  refine MetFree.of_bodyS (code := cc) (maxLocals := maxL) (ret := ret) hy ?_ ?_
  · intro args s m h hn
    obtain ⟨meth, c, h1, h2, h3, h4, h5, h6, -, -⟩ := Cond.code_spec hn (atoms_spec (ws := ws) h _ (by rw [hw]; exact List.mem_cons_self))
    exact ⟨meth, c, h1, h2, h3, h4, h5, h6⟩
  · intro p e s m args below meth c s₁ B hml hP _
    have hh0 : s₁.heap = s.heap := by rw [B.state]; rfl
    have ht : ∀ x ∈ c.exceptionTable.toList, False := by
      obtain ⟨meth9, c9, h1, h2, -, -, -, -, h7, -⟩ := Cond.code_spec B.named (atoms_spec (ws := ws) B.pre _ (by rw [hw]; exact List.mem_cons_self))
      cases Option.some.inj (h1.symm.trans B.method)
      cases Option.some.inj (h2.symm.trans (Stand.of_body B).code)
      intro x hx
      rw [Array.isEmpty_iff.mp h7] at hx
      cases hx
    obtain ⟨t, a1, o, b1, b2, b3⟩ := body p e s m args below meth c s₁ B hml ht hP s₁ hh0 (Stand.of_body B)
    exact ⟨t, o, a1, b1, b2, b3⟩
/-- the table of a body with handlers -/
theorem vx_table {p : Program} {x y : MethodName} {S : Spec} {cc bytes : ByteArray} {maxL maxL' : Nat} {ret ret' : Option FieldType} {e : Env} {s s₁ : State} {m : MethodId} {args : Array Value} {below : List Frame} {meth : Method} {c : Code} {hh : List (Nat × Nat × Nat × Nat)}
    (B : BodyLoose p l y S cc maxL ret e s m args below meth c s₁) (h : (Cond.codeWith y bytes maxL' ret' hh).before args s = true) : c.exceptionTable.toList = tableOf hh := by
  obtain ⟨m9, meth9, c9, hn9, h1, h2, -, -, h6, -⟩ := Cond.codeWith_spec h
  cases Option.some.inj (hn9.symm.trans B.named)
  cases Option.some.inj (h1.symm.trans B.method)
  cases Option.some.inj (h2.symm.trans (Stand.of_body B).code)
  rw [← h6, table_eq]
end Bodies
end VXA
/-! ===== END ===== -/
/-! ===== BEGIN a static call of a method with an exception table ===== -/
section VXS
variable {p : Program} {l : Launch} {e : Env} {R : Room} {s : State} {m : MethodId} {args : Array Value} {below : List Frame} {meth : Method} {c : Code} {T : State} {H : Heap} {locs : List Loc} {cells slots : Nat}
abbrev vx_CSW (R : Room) (s : State) (args : Array Value) (own : String) (index : Nat) (y : MethodName) (bytes : ByteArray) (maxL : Nat) (ret : Option FieldType) (hh : List (Nat × Nat × Nat × Nat)) (ws : List Cond) (rm : Room) (mc ms n : Nat) : Prop :=
  (rm.cells = mc ∧ rm.slots = ms ∧ rm.frames + 1 ≤ R.frames ∧ 8 + (maxL + 11) + rm.locals ≤ R.locals ∧ (∀ w ∈ ws, ∀ (a' : Array Value) (U : State), s.WarmedH U.vm → w.before a' U = true) ∧ Cond.codeWith y bytes maxL ret hh ∈ ws) ∧
  (Cond.codeWith y bytes maxL ret hh).before args s = true ∧ (Cond.initialized y.cls).before args s = true ∧ (y.cls ≠ "java/lang/invoke/MethodHandle" ∧ y.cls ≠ "java/lang/invoke/VarHandle") ∧
  (∀ sig, parseMethodDescriptor y.desc = some sig → n = sig.parameters.length) ∧ (Cond.methodLink own index y).before args s = true ∧ (Cond.static y).before args s = true
theorem vx_cwSW {own : String} {index maxL mc ms : Nat} {y : MethodName} {bytes : ByteArray} {ret : Option FieldType} {hh : List (Nat × Nat × Nat × Nat)} {Ts ws ws' : List Cond} {rm : Room} (n : Nat) (ht : ∀ w ∈ Ts, w.before args s = true) (hT : GoodIn Ts (va_wsS own index y ws)) (hw : ws = Cond.codeWith y bytes maxL ret hh :: ws') (hrc : rm.cells = mc) (hrs : rm.slots = ms)
    (hd : y.cls ≠ "java/lang/invoke/MethodHandle" ∧ y.cls ≠ "java/lang/invoke/VarHandle" ∧ (parseMethodDescriptor y.desc).map (fun d => d.parameters.length) = some n) (hR : rm.frames + 1 ≤ R.frames ∧ 8 + (maxL + 11) + rm.locals ≤ R.locals) :
    vx_CSW R s args own index y bytes maxL ret hh ws rm mc ms n := by
  have ok : ∀ w ∈ va_wsS own index y ws, w.before args s = true := fun w h => ht w (hT w h).1
  have hG : GoodIn Ts ws := fun w h => hT w (by unfold va_wsS; exact List.mem_append_right _ h)
  have hc : Cond.codeWith y bytes maxL ret hh ∈ ws := by rw [hw]; exact List.mem_cons_self
  refine ⟨⟨hrc, hrs, hR.1, hR.2, pay_in ht hG, hc⟩, ht _ (hG _ hc).1, ok _ (by simp [va_wsS]), ⟨hd.1, hd.2.1⟩, fun sig h => ?_, ok _ (by simp [va_wsS]), ok _ (by simp [va_wsS])⟩
  have h2 := hd.2.2
  rw [h] at h2
  exact (Option.some.inj h2).symm
theorem vx_callSW (X : Stand p l e R s m args below meth c T locs cells slots) (hexec : p.tables.exec = Jvm.exec) {own : String} {index : Nat} {y : MethodName} {bytes : ByteArray} {maxL : Nat} {ret : Option FieldType} {hh : List (Nat × Nat × Nat × Nat)}
    (hown : s.vm.findClass own = some m.cls) (hlink : (Cond.methodLink own index y).before args s = true) (hstat : (Cond.static y).before args s = true) (hinit : (Cond.initialized y.cls).before args s = true)
    (hcode : (Cond.codeWith y bytes maxL ret hh).before args s = true) (hy : y.cls ≠ "java/lang/invoke/MethodHandle" ∧ y.cls ≠ "java/lang/invoke/VarHandle")
    {W9 : Nat} {Pre : Pt → Array Value → Prop} {Post : Pt → Array Value → Option Value → Pt → Prop} (hK : Back l R p e below s args y 3 W9 Pre Post)
    {g : JFrame} (hg : g.method = m) (hsize : g.locals.size = c.maxLocals) {argsL rest : List Value} (hlen : ∀ sig, parseMethodDescriptor y.desc = some sig → argsL.length = sig.parameters.length)
    (hstack : g.stack = argsL.reverse ++ rest) (hW : 2 * g.monitorRoom + (rest.map fun v => v.category).sum ≤ W9) (hdg : decode c.code g.pc = .ok (.invokestatic index, 3))
    (hpre : ∀ vm₁, s.WarmedH vm₁ → Pre ⟨T.setVm vm₁, locs, cells, slots⟩ argsL.toArray) :
    ∃ (v : Option Value) (vm₁ : Vm) (B : Pt), s.WarmedH vm₁ ∧ Stand p l e R s m args below meth c B.U B.locs B.cells B.slots ∧ Post ⟨T.setVm vm₁, locs, cells, slots⟩ argsL.toArray v B ∧
      ∀ target, Steps p.tables e below (B.U.setTop { g with pc := g.pc + 3, stack := v.toList ++ rest }) target → Steps p.tables e below (T.setTop g) target := by
  obtain ⟨mk, methM, cM, hnamed, hmethM, -, -, -, -, -, -, hsigM⟩ := Cond.codeWith_spec hcode
  have hstatic : methM.isStatic = true := Cond.static_spec hnamed hmethM hstat
  obtain ⟨kP, hkP, -⟩ := className_of_methodNamed hnamed
  have hinitP : kP.init = .initialized := Cond.initialized_spec (findClass_of_methodNamed hnamed) hkP hinit
  obtain ⟨vm₁, X₁, hstep₁⟩ := X.invokestatic hexec hown hlink hnamed hmethM hstatic hkP hinitP hy (g := g) hg (argsL := argsL) (rest := rest) (hlen _ hsigM) hstack hdg
  obtain ⟨v, B, X', hpost, hsteps⟩ := hK m meth c ⟨T.setVm vm₁, locs, cells, slots⟩ { g with stack := rest } (.invokestatic index) mk argsL.toArray X₁ hg hsize hdg hW (X₁.named hnamed) (hpre vm₁ X₁.warmed)
  exact ⟨v, vm₁, B, X₁.warmed, X', hpost, fun target h => hstep₁ _ fun acts => by rw [doInvoke_state]; exact hsteps.trans h⟩
theorem vx_runSW {y : MethodName} {bytes cc : ByteArray} {maxL nL mc ms n index : Nat} {ret : Option FieldType} {hh : List (Nat × Nat × Nat × Nat)} {ws : List Cond} {rm : Room} {Pc : Array Value → State → Prop} {Qc : Array Value → State → Outcome → State → Prop} {free : Addr → Prop} {Ts : List Cond} {own : String} {As rest : List Value} {g : JFrame}
    (S : CallFix p m c cc nL s args Ts own) (hM : Met l y ws rm Pc Qc mc ms free) (cw : vx_CSW R s args own index y bytes maxL ret hh ws rm mc ms n) (hp : PreS s H Pc As)
    (hg : g.method = m) (hn : As.length = n) (hsize : g.locals.size = nL) (hstack : g.stack = As.reverse ++ rest) (hW : 2 * g.monitorRoom + (rest.map fun v => v.category).sum ≤ 8) (hdg : decode cc g.pc = .ok (.invokestatic index, 3)) (hf : cells + mc ≤ R.cells ∧ slots + ms ≤ R.slots) :
    va_Run p l e R s m args below meth c H locs cells slots mc ms g rest (Qc As.toArray) (free) := by
  obtain ⟨⟨hrc, hrs, hfr, hlo, hws, hcw⟩, hcode, hini, hy, hlen, hl, hstt⟩ := cw
  have hK : Back l R p e below s args y 3 8 (PreOf R mc ms Pc) (PostOf Qc mc ms free) := va_backW (hh := hh) (bytes := bytes) (maxL := maxL) (ret := ret) hM hp.1 hrc hrs hfr hlo hws hcw (fun a' U hW => word_at hW (Or.inl (by first | rfl | simp [Cond.onTables, Cond.keeps, Cond.steady])) hini)
  obtain ⟨hx, hb, hml, ho, -⟩ := S
  intro T hT X
  obtain ⟨v, vm₁, ⟨U', l2, c2, s2⟩, hW₁, X', ⟨g', mk, t, L, e1, e2, hq, h1, hL, h2, h3⟩, st⟩ := vx_callSW X hx (hh := hh) (bytes := bytes) (maxL := maxL) (ret := ret) ho hl hstt hini hcode hy hK hg (hsize.trans hml.symm) (argsL := As) (rest := rest) (fun sig h => hn.trans (hlen sig h)) hstack hW (by rw [hb]; exact hdg)
    (fun vm₁ hW₁ => ⟨hf.1, hf.2, hp.2 (T.setVm vm₁) hT hW₁⟩)
  dsimp only [Pt.U, Pt.locs, Pt.cells, Pt.slots] at X' e1 e2 h1 h2 h3 st
  subst h1; subst h2; subst h3
  exact ⟨v, (T.setVm vm₁).calling g' mk As.toArray, t, U', L, hT, X', hL, e1, e2, hq, st⟩
/-- a thing of a world lies in the heap -/
theorem vx_lt {D : va_G} {cl : List vw_C} {ws : va_W} {H1 : Heap} (h : va_P D cl ws H1) {k : Nat} {q : Nat × va_E} (hk : ws[k]? = some q) : q.1 < H1.size := (h k q hk).lt
end VXS
/-! ===== END ===== -/
/-! ===== BEGIN methods with a table of their own: called by a name, returning or throwing ===== -/
section VXH
/-! vx_backW, vx_callVX, vx_callSX, vx_callVW, vx_runVW, vx_runVX, vx_runSX, vx_ofWH follow the same proofs as their sisters above (Free/Laws.lean, Shelf42/LK1.lean); vx_outP calls Shelf42/NT130.lean (outThrough). -/
section
variable {l : Launch} {R : Room} {p : Program} {e : Env} {below : List Frame} {s : State} {sargs : Array Value} {y : MethodName} {len W9 : Nat}
theorem vx_backW {ws : List Cond} {rm : Room} {Pc : Array Value → State → Prop} {Qc : Array Value → State → Outcome → State → Prop} {XC : String → State → State → Prop} {mc ms : Nat} {free : Addr → Prop} {bytes : ByteArray} {maxL : Nat} {ret : Option FieldType} {hh : List (Nat × Nat × Nat × Nat)}
    (hM : vx_Met l y ws rm Pc Qc XC mc ms free) (hblind : FrameBlind Pc) (hrc : rm.cells = mc) (hrs : rm.slots = ms)
    (hframes : rm.frames + 1 ≤ R.frames) (hlocals : W9 + (maxL + 11) + rm.locals ≤ R.locals)
    (hws : ∀ w ∈ ws, ∀ a' U, s.WarmedH U.vm → w.before a' U = true) (hcode : Cond.codeWith y bytes maxL ret hh ∈ ws) (hinit : ∀ a' U, s.WarmedH U.vm → (Cond.initialized y.cls).before a' U = true) :
    vx_Back l R p e below s sargs y len W9 (PreOf R mc ms Pc) (PostOf Qc mc ms free) (vx_Post XC mc ms free) := by
  intro m meth c A g ig mk a X hg hsize hdg hW hn hp
  have h1 : (headSpec ws rm).pre.before a A.U = true := atoms_intro fun w hw => hws w hw _ _ X.warmed
  have h2 : (Cond.codeWith y bytes maxL ret hh).before a A.U = true := hws _ hcode _ _ X.warmed
  have h3 : (Cond.initialized y.cls).before a A.U = true := hinit _ _ X.warmed
  have h4 : A.cells + (headSpec ws rm).room.cells ≤ R.cells := by rw [show (headSpec ws rm).room.cells = mc from hrc]; exact hp.1
  have h5 : A.slots + (headSpec ws rm).room.slots ≤ R.slots := by rw [show (headSpec ws rm).room.slots = ms from hrs]; exact hp.2.1
  have hPc : Pc a (A.U.calling g mk a) := hblind _ _ _ _ hp.2.2
  obtain ⟨U, Ls, c0, s0⟩ := A
  dsimp only [Pt.U, Pt.locs, Pt.cells, Pt.slots] at h1 h2 h3 h4 h5 X hn hPc ⊢
  obtain ⟨m9, methY, cY, hn9, hmY, hcY, -, hlY, -⟩ := Cond.codeWith_spec h2
  cases Option.some.inj (hn9.symm.trans hn)
  obtain ⟨kY, hkY, -⟩ := className_of_methodNamed hn
  have hinitY : kY.init = .initialized := Cond.initialized_spec (findClass_of_methodNamed hn) hkY h3
  have h : At U g.method c below := by rw [hg]; exact X.here
  have hlocals9 : W9 + (maxL + 11) + (headSpec ws rm).room.locals ≤ R.locals := hlocals
  have happ : (headSpec ws rm).appliesLoose y e.platform (U.calling g mk a) = true :=
    Spec.appliesLoose_calling (g := g) h hdg hn hkY hinitY
      (X.room_calling (g := g) (R' := (headSpec ws rm).room) hsize hmY hcY hframes (by rw [hlY]; omega) h4 h5) h1
  obtain ⟨mid, hmid⟩ := h.above
  have hfr : (U.setTop g).frames = (.java g :: mid) ++ below := by rw [State.frames_setTop' g h.top, hmid]; rfl
  obtain ⟨o, s₂, hsteps, -, hend, hq⟩ := Steps.callFree hM p X.admits X.cas X.clock (acts := []) hfr happ hPc trivial
  have hq' : vx_Q Qc XC mc ms free a (U.calling g mk a) o s₂ := hq
  rw [State.frames_setTop' g h.top] at hend
  obtain ⟨g₀, hg0⟩ := Option.isSome_iff_exists.mp h.top
  obtain ⟨r, hr⟩ := State.topJava?_eq_some.mp hg0
  have hr' : (({ U with heap := s₂.heap, slotsUsed := s₂.slotsUsed } : State).setVm s₂.vm).frames = .java g₀ :: r := hr
  rcases hq' with ⟨hqc, L, hfe, hL⟩ | ⟨q, rfl, E, ce, L, hx, hce, hcv, hcl, hW₂, hsm, hL⟩
  · obtain ⟨⟨v, rfl⟩, hW₂, e2, q2, q3, q4, q5, q6⟩ := id hfe
    have e3 : s₂ = ({ (U.calling g mk a).setFrames s₂.frames with heap := s₂.heap, slotsUsed := s₂.slotsUsed } : State).setVm s₂.vm := by
      have : s₂ = ({ s₂ with vm := (U.calling g mk a).vm } : State).setVm s₂.vm := rfl
      rw [e2] at this
      exact this
    obtain ⟨c₂, i₂, len₂, hc₂, hd₂, hf₂⟩ := hend
    have hW' : U.WarmedH s₂.vm := hW₂
    have hcc : c₂ = c := by
      have h1 : s₂.code? g.method = U.code? g.method := by
        rw [State.code?_eq, State.code?_eq, hW'.alike.method?]
      exact Option.some.inj (hc₂.symm.trans (h1.trans h.code))
    subst hcc
    have hlen : len₂ = len := by rw [hdg] at hd₂; cases hd₂; rfl
    subst hlen
    have hs₂ : s₂ = (({ U with heap := s₂.heap, slotsUsed := s₂.slotsUsed } : State).setVm s₂.vm).setTop { g with pc := g.pc + len₂, stack := v.toList ++ g.stack } := by
      refine e3.trans ?_
      rw [hf₂, State.calling_eq h.top, State.setFrames_setFrames, State.setTop_of_frames _ hr', hr]
      rfl
    have hsame : U.sameButNew ({ U with heap := s₂.heap, slotsUsed := s₂.slotsUsed } : State) L mc ms := by
      refine ⟨?_, q2, q3, q4, q5, q6⟩
      obtain ⟨t, ht, -⟩ := State.frames_cons hr
      show ({ U with heap := s₂.heap, slotsUsed := s₂.slotsUsed } : State) = { U.setFrames U.frames with heap := s₂.heap, slotsUsed := s₂.slotsUsed }
      rw [State.setFrames_self ht]
    subst hg
    refine Or.inl ⟨v, ⟨(({ U with heap := s₂.heap, slotsUsed := s₂.slotsUsed } : State).setVm s₂.vm), Ls ++ L, c0 + mc, s0 + ms⟩,
      ⟨X.admits, X.cas, X.clock, X.frames, X.room, X.hears, X.method, X.code, (X.here.setHeapUsed s₂.heap s₂.slotsUsed).setVm hW'.alike, X.tail, State.WarmedH.trans X.warmed hW', X.limits, X.bytes, X.same.trans (hsame.setVm s.vm)⟩,
      ⟨g, mk, s₂, L, rfl, rfl, hqc, rfl, hL, rfl, rfl⟩, ?_⟩
    show Steps p.tables e below _ ((({ U with heap := s₂.heap, slotsUsed := s₂.slotsUsed } : State).setVm s₂.vm).setTop { g with pc := g.pc + len₂, stack := v.toList ++ g.stack })
    rw [← hs₂]
    exact hsteps
  · obtain ⟨e2, q2, q3, q4, q5, q6⟩ := id hsm
    have e3 : s₂ = ({ (U.calling g mk a).setFrames s₂.frames with heap := s₂.heap, slotsUsed := s₂.slotsUsed } : State).setVm s₂.vm := by
      have : s₂ = ({ s₂ with vm := (U.calling g mk a).vm } : State).setVm s₂.vm := rfl
      rw [e2] at this
      exact this
    have hf₂ : s₂.frames = .throwing q :: .java g :: U.frames.tail := hend
    have hW' : U.WarmedH s₂.vm := hW₂
    have hs₂ : s₂ = ((({ U with heap := s₂.heap, slotsUsed := s₂.slotsUsed } : State).setVm s₂.vm).setTop g).pushFrame (.throwing q) := by
      refine e3.trans ?_
      rw [hf₂, State.calling_eq h.top, State.setFrames_setFrames, State.pushFrame, State.frames_setTop _ hr', State.setTop_of_frames _ hr', State.setFrames_setFrames, hr]
      rfl
    have hsame : U.sameButNew ({ U with heap := s₂.heap, slotsUsed := s₂.slotsUsed } : State) L mc ms := by
      refine ⟨?_, q2, q3, q4, q5, q6⟩
      obtain ⟨t, ht, -⟩ := State.frames_cons hr
      show ({ U with heap := s₂.heap, slotsUsed := s₂.slotsUsed } : State) = { U.setFrames U.frames with heap := s₂.heap, slotsUsed := s₂.slotsUsed }
      rw [State.setFrames_self ht]
    subst hg
    refine Or.inr ⟨q, ⟨(({ U with heap := s₂.heap, slotsUsed := s₂.slotsUsed } : State).setVm s₂.vm), Ls ++ L, c0 + mc, s0 + ms⟩,
      ⟨X.admits, X.cas, X.clock, X.frames, X.room, X.hears, X.method, X.code, (X.here.setHeapUsed s₂.heap s₂.slotsUsed).setVm hW'.alike, X.tail, State.WarmedH.trans X.warmed hW', X.limits, X.bytes, X.same.trans (hsame.setVm s.vm)⟩,
      ⟨g, mk, s₂, L, E, ce, rfl, rfl, hx, hce, hcv, hcl, rfl, hL, rfl, rfl⟩, ?_⟩
    show Steps p.tables e below _ (((({ U with heap := s₂.heap, slotsUsed := s₂.slotsUsed } : State).setVm s₂.vm).setTop g).pushFrame (.throwing q))
    rw [← hs₂]
    exact hsteps
end
variable {p : Program} {l : Launch} {e : Env} {R : Room} {s : State} {m : MethodId} {args : Array Value} {below : List Frame} {meth : Method} {c : Code} {T : State} {H : Heap} {locs : List Loc} {cells slots : Nat}
theorem vx_callVX (X : Stand p l e R s m args below meth c T locs cells slots) (hexec : p.tables.exec = Jvm.exec) {own C : String} {index : Nat} {y : MethodName} {bytes : ByteArray} {maxL : Nat} {ret : Option FieldType} {hh : List (Nat × Nat × Nat × Nat)}
    (hown : s.vm.findClass own = some m.cls) (hlink : (Cond.methodLink own index y).before args s = true) (hinst : (Cond.instanceMethod y).before args s = true) (hsel : (Cond.selects C y y).before args s = true)
    (hcode : (Cond.codeWith y bytes maxL ret hh).before args s = true) (hy : y.cls ≠ "java/lang/invoke/MethodHandle" ∧ y.cls ≠ "java/lang/invoke/VarHandle")
    {W9 : Nat} {Pre : Pt → Array Value → Prop} {Post : Pt → Array Value → Option Value → Pt → Prop} {PostX : Pt → Array Value → Addr → Pt → Prop} (hK : vx_Back l R p e below s args y 3 W9 Pre Post PostX)
    {b : Addr} {cellB : Cell} (hcell : T.heap[b]? = some cellB) (hobj : cellB.vm.isStatics = false) (hcls : s.vm.findClass C = some cellB.cls)
    {g : JFrame} (hg : g.method = m) (hsize : g.locals.size = c.maxLocals) {argsL rest : List Value} (hlen : ∀ sig, parseMethodDescriptor y.desc = some sig → argsL.length = sig.parameters.length)
    (hstack : g.stack = argsL.reverse ++ .ref b :: rest) (hW : 2 * g.monitorRoom + (rest.map fun v => v.category).sum ≤ W9) (hdg : decode c.code g.pc = .ok (.invokevirtual index, 3))
    (hpre : ∀ vm₁, s.WarmedH vm₁ → Pre ⟨T.setVm vm₁, locs, cells, slots⟩ (Value.ref b :: argsL).toArray) :
    (∃ (v : Option Value) (vm₁ : Vm) (B : Pt), s.WarmedH vm₁ ∧ Stand p l e R s m args below meth c B.U B.locs B.cells B.slots ∧ Post ⟨T.setVm vm₁, locs, cells, slots⟩ (Value.ref b :: argsL).toArray v B ∧
      ∀ target, Steps p.tables e below (B.U.setTop { g with pc := g.pc + 3, stack := v.toList ++ rest }) target → Steps p.tables e below (T.setTop g) target) ∨
    (∃ (q : Addr) (vm₁ : Vm) (B : Pt), s.WarmedH vm₁ ∧ Stand p l e R s m args below meth c B.U B.locs B.cells B.slots ∧ PostX ⟨T.setVm vm₁, locs, cells, slots⟩ (Value.ref b :: argsL).toArray q B ∧
      Steps p.tables e below (T.setTop g) ((B.U.setTop { g with stack := rest }).pushFrame (.throwing q))) := by
  obtain ⟨mk, methM, hnamed, hmethM, hstM, habM⟩ := Cond.instanceMethod_spec hinst
  obtain ⟨m8, methM', cM, hn8, hmethM', -, -, -, -, -, -, hsigM⟩ := Cond.codeWith_spec hcode
  cases Option.some.inj (hn8.symm.trans hnamed)
  cases hmethM.symm.trans hmethM'
  obtain ⟨c2, r2, m2, q1, q2, q3, q4, kP, hkP, hkPi⟩ := Cond.selects_spec hsel
  cases hcls.symm.trans q1
  cases (State.methodFound?_of_named hnamed hy).symm.trans q2
  cases hnamed.symm.trans q3
  have hselP : selectMethod e.platform s.vm cellB.cls mk = .method mk := by rw [Launch.admits_selectMethod X.admits]; exact q4
  obtain ⟨vm₁, X₁, hstep₁⟩ := X.invokevirtual hexec hown hlink hnamed hmethM hstM hkP hkPi hy (a := b) (cell := cellB) hcell
    (fun z h => by rw [h] at hobj; cases hobj) hselP hmethM habM hkP hkPi (g := g) hg (argsL := argsL) (rest := rest) (hlen _ hsigM) hstack hdg
  rcases hK m meth c ⟨T.setVm vm₁, locs, cells, slots⟩ { g with stack := rest } (.invokevirtual index) mk (Value.ref b :: argsL).toArray X₁ hg hsize hdg hW (X₁.named hnamed) (hpre vm₁ X₁.warmed) with ⟨v, B, X', hpost, hsteps⟩ | ⟨q, B, X', hpost, hsteps⟩
  · exact Or.inl ⟨v, vm₁, B, X₁.warmed, X', hpost, fun target h => hstep₁ _ fun acts => by rw [doInvoke_state]; exact hsteps.trans h⟩
  · exact Or.inr ⟨q, vm₁, B, X₁.warmed, X', hpost, hstep₁ _ fun acts => by rw [doInvoke_state]; exact hsteps⟩
theorem vx_callSX (X : Stand p l e R s m args below meth c T locs cells slots) (hexec : p.tables.exec = Jvm.exec) {own : String} {index : Nat} {y : MethodName} {bytes : ByteArray} {maxL : Nat} {ret : Option FieldType} {hh : List (Nat × Nat × Nat × Nat)}
    (hown : s.vm.findClass own = some m.cls) (hlink : (Cond.methodLink own index y).before args s = true) (hstat : (Cond.static y).before args s = true) (hinit : (Cond.initialized y.cls).before args s = true)
    (hcode : (Cond.codeWith y bytes maxL ret hh).before args s = true) (hy : y.cls ≠ "java/lang/invoke/MethodHandle" ∧ y.cls ≠ "java/lang/invoke/VarHandle")
    {W9 : Nat} {Pre : Pt → Array Value → Prop} {Post : Pt → Array Value → Option Value → Pt → Prop} {PostX : Pt → Array Value → Addr → Pt → Prop} (hK : vx_Back l R p e below s args y 3 W9 Pre Post PostX)
    {g : JFrame} (hg : g.method = m) (hsize : g.locals.size = c.maxLocals) {argsL rest : List Value} (hlen : ∀ sig, parseMethodDescriptor y.desc = some sig → argsL.length = sig.parameters.length)
    (hstack : g.stack = argsL.reverse ++ rest) (hW : 2 * g.monitorRoom + (rest.map fun v => v.category).sum ≤ W9) (hdg : decode c.code g.pc = .ok (.invokestatic index, 3))
    (hpre : ∀ vm₁, s.WarmedH vm₁ → Pre ⟨T.setVm vm₁, locs, cells, slots⟩ argsL.toArray) :
    (∃ (v : Option Value) (vm₁ : Vm) (B : Pt), s.WarmedH vm₁ ∧ Stand p l e R s m args below meth c B.U B.locs B.cells B.slots ∧ Post ⟨T.setVm vm₁, locs, cells, slots⟩ argsL.toArray v B ∧
      ∀ target, Steps p.tables e below (B.U.setTop { g with pc := g.pc + 3, stack := v.toList ++ rest }) target → Steps p.tables e below (T.setTop g) target) ∨
    (∃ (q : Addr) (vm₁ : Vm) (B : Pt), s.WarmedH vm₁ ∧ Stand p l e R s m args below meth c B.U B.locs B.cells B.slots ∧ PostX ⟨T.setVm vm₁, locs, cells, slots⟩ argsL.toArray q B ∧
      Steps p.tables e below (T.setTop g) ((B.U.setTop { g with stack := rest }).pushFrame (.throwing q))) := by
  obtain ⟨mk, methM, cM, hnamed, hmethM, -, -, -, -, -, -, hsigM⟩ := Cond.codeWith_spec hcode
  have hstatic : methM.isStatic = true := Cond.static_spec hnamed hmethM hstat
  obtain ⟨kP, hkP, -⟩ := className_of_methodNamed hnamed
  have hinitP : kP.init = .initialized := Cond.initialized_spec (findClass_of_methodNamed hnamed) hkP hinit
  obtain ⟨vm₁, X₁, hstep₁⟩ := X.invokestatic hexec hown hlink hnamed hmethM hstatic hkP hinitP hy (g := g) hg (argsL := argsL) (rest := rest) (hlen _ hsigM) hstack hdg
  rcases hK m meth c ⟨T.setVm vm₁, locs, cells, slots⟩ { g with stack := rest } (.invokestatic index) mk argsL.toArray X₁ hg hsize hdg hW (X₁.named hnamed) (hpre vm₁ X₁.warmed) with ⟨v, B, X', hpost, hsteps⟩ | ⟨q, B, X', hpost, hsteps⟩
  · exact Or.inl ⟨v, vm₁, B, X₁.warmed, X', hpost, fun target h => hstep₁ _ fun acts => by rw [doInvoke_state]; exact hsteps.trans h⟩
  · exact Or.inr ⟨q, vm₁, B, X₁.warmed, X', hpost, hstep₁ _ fun acts => by rw [doInvoke_state]; exact hsteps⟩
theorem vx_callVW (X : Stand p l e R s m args below meth c T locs cells slots) (hexec : p.tables.exec = Jvm.exec) {own C : String} {index : Nat} {y : MethodName} {bytes : ByteArray} {maxL : Nat} {ret : Option FieldType} {hh : List (Nat × Nat × Nat × Nat)}
    (hown : s.vm.findClass own = some m.cls) (hlink : (Cond.methodLink own index y).before args s = true) (hinst : (Cond.instanceMethod y).before args s = true) (hsel : (Cond.selects C y y).before args s = true)
    (hcode : (Cond.codeWith y bytes maxL ret hh).before args s = true) (hy : y.cls ≠ "java/lang/invoke/MethodHandle" ∧ y.cls ≠ "java/lang/invoke/VarHandle")
    {W9 : Nat} {Pre : Pt → Array Value → Prop} {Post : Pt → Array Value → Option Value → Pt → Prop} (hK : Back l R p e below s args y 3 W9 Pre Post)
    {b : Addr} {cellB : Cell} (hcell : T.heap[b]? = some cellB) (hobj : cellB.vm.isStatics = false) (hcls : s.vm.findClass C = some cellB.cls)
    {g : JFrame} (hg : g.method = m) (hsize : g.locals.size = c.maxLocals) {argsL rest : List Value} (hlen : ∀ sig, parseMethodDescriptor y.desc = some sig → argsL.length = sig.parameters.length)
    (hstack : g.stack = argsL.reverse ++ .ref b :: rest) (hW : 2 * g.monitorRoom + (rest.map fun v => v.category).sum ≤ W9) (hdg : decode c.code g.pc = .ok (.invokevirtual index, 3))
    (hpre : ∀ vm₁, s.WarmedH vm₁ → Pre ⟨T.setVm vm₁, locs, cells, slots⟩ (Value.ref b :: argsL).toArray) :
    ∃ (v : Option Value) (vm₁ : Vm) (B : Pt), s.WarmedH vm₁ ∧ Stand p l e R s m args below meth c B.U B.locs B.cells B.slots ∧ Post ⟨T.setVm vm₁, locs, cells, slots⟩ (Value.ref b :: argsL).toArray v B ∧
      ∀ target, Steps p.tables e below (B.U.setTop { g with pc := g.pc + 3, stack := v.toList ++ rest }) target → Steps p.tables e below (T.setTop g) target := by
  obtain ⟨mk, methM, hnamed, hmethM, hstM, habM⟩ := Cond.instanceMethod_spec hinst
  obtain ⟨m8, methM', cM, hn8, hmethM', -, -, -, -, -, -, hsigM⟩ := Cond.codeWith_spec hcode
  cases Option.some.inj (hn8.symm.trans hnamed)
  cases hmethM.symm.trans hmethM'
  obtain ⟨c2, r2, m2, q1, q2, q3, q4, kP, hkP, hkPi⟩ := Cond.selects_spec hsel
  cases hcls.symm.trans q1
  cases (State.methodFound?_of_named hnamed hy).symm.trans q2
  cases hnamed.symm.trans q3
  have hselP : selectMethod e.platform s.vm cellB.cls mk = .method mk := by rw [Launch.admits_selectMethod X.admits]; exact q4
  obtain ⟨vm₁, X₁, hstep₁⟩ := X.invokevirtual hexec hown hlink hnamed hmethM hstM hkP hkPi hy (a := b) (cell := cellB) hcell
    (fun z h => by rw [h] at hobj; cases hobj) hselP hmethM habM hkP hkPi (g := g) hg (argsL := argsL) (rest := rest) (hlen _ hsigM) hstack hdg
  obtain ⟨v, B, X', hpost, hsteps⟩ := hK m meth c ⟨T.setVm vm₁, locs, cells, slots⟩ { g with stack := rest } (.invokevirtual index) mk (Value.ref b :: argsL).toArray X₁ hg hsize hdg hW (X₁.named hnamed) (hpre vm₁ X₁.warmed)
  exact ⟨v, vm₁, B, X₁.warmed, X', hpost, fun target h => hstep₁ _ fun acts => by rw [doInvoke_state]; exact hsteps.trans h⟩
abbrev vx_CVW (R : Room) (s : State) (args : Array Value) (own C : String) (index : Nat) (y : MethodName) (bytes : ByteArray) (maxL : Nat) (ret : Option FieldType) (hh : List (Nat × Nat × Nat × Nat)) (ws : List Cond) (rm : Room) (mc ms n : Nat) : Prop :=
  (rm.cells = mc ∧ rm.slots = ms ∧ rm.frames + 1 ≤ R.frames ∧ 8 + (maxL + 11) + rm.locals ≤ R.locals ∧ (∀ w ∈ ws, ∀ (a' : Array Value) (U : State), s.WarmedH U.vm → w.before a' U = true) ∧ Cond.codeWith y bytes maxL ret hh ∈ ws) ∧
  (Cond.codeWith y bytes maxL ret hh).before args s = true ∧ (Cond.initialized y.cls).before args s = true ∧ (y.cls ≠ "java/lang/invoke/MethodHandle" ∧ y.cls ≠ "java/lang/invoke/VarHandle") ∧
  (∀ sig, parseMethodDescriptor y.desc = some sig → n = sig.parameters.length) ∧ (Cond.methodLink own index y).before args s = true ∧ (Cond.instanceMethod y).before args s = true ∧ (Cond.selects C y y).before args s = true
theorem vx_cwVW {own C : String} {index maxL mc ms : Nat} {y : MethodName} {bytes : ByteArray} {ret : Option FieldType} {hh : List (Nat × Nat × Nat × Nat)} {Ts ws ws' : List Cond} {rm : Room} (n : Nat) (ht : ∀ w ∈ Ts, w.before args s = true) (hT : GoodIn Ts (wsV own index C y ws)) (hw : ws = Cond.codeWith y bytes maxL ret hh :: ws') (hrc : rm.cells = mc) (hrs : rm.slots = ms)
    (hd : y.cls = C ∧ y.cls ≠ "java/lang/invoke/MethodHandle" ∧ y.cls ≠ "java/lang/invoke/VarHandle" ∧ (parseMethodDescriptor y.desc).map (fun d => d.parameters.length) = some n) (hR : rm.frames + 1 ≤ R.frames ∧ 8 + (maxL + 11) + rm.locals ≤ R.locals) :
    vx_CVW R s args own C index y bytes maxL ret hh ws rm mc ms n := by
  obtain ⟨hC, hd⟩ := hd
  subst hC
  have ok : ∀ w ∈ wsV own index y.cls y ws, w.before args s = true := fun w h => ht w (hT w h).1
  have hG : GoodIn Ts ws := fun w h => hT w (by unfold wsV; exact List.mem_append_right _ h)
  have hc : Cond.codeWith y bytes maxL ret hh ∈ ws := by rw [hw]; exact List.mem_cons_self
  refine ⟨⟨hrc, hrs, hR.1, hR.2, pay_in ht hG, hc⟩, ht _ (hG _ hc).1, ok _ (by simp [wsV]), ⟨hd.1, hd.2.1⟩, fun sig h => ?_, ok _ (by simp [wsV]), ok _ (by simp [wsV]), ok _ (by simp [wsV])⟩
  have h2 := hd.2.2
  rw [h] at h2
  exact (Option.some.inj h2).symm
theorem vx_runVW {y : MethodName} {bytes cc : ByteArray} {maxL nL mc ms n index : Nat} {ret : Option FieldType} {hh : List (Nat × Nat × Nat × Nat)} {ws : List Cond} {rm : Room} {Pc : Array Value → State → Prop} {Qc : Array Value → State → Outcome → State → Prop} {free : Addr → Prop} {Ts : List Cond} {own C : String} {b : Addr} {As rest : List Value} {g : JFrame}
    (S : CallFix p m c cc nL s args Ts own) (hM : Met l y ws rm Pc Qc mc ms free) (cw : vx_CVW R s args own C index y bytes maxL ret hh ws rm mc ms n) (hp : PreV s H C b Pc As)
    (hg : g.method = m) (hn : As.length = n) (hsize : g.locals.size = nL) (hstack : g.stack = As.reverse ++ .ref b :: rest) (hW : 2 * g.monitorRoom + (rest.map fun v => v.category).sum ≤ 8) (hdg : decode cc g.pc = .ok (.invokevirtual index, 3)) (hf : cells + mc ≤ R.cells ∧ slots + ms ≤ R.slots) :
    va_Run p l e R s m args below meth c H locs cells slots mc ms g rest (Qc (Value.ref b :: As).toArray) free := by
  obtain ⟨⟨hrc, hrs, hfr, hlo, hws, hcw⟩, hcode, hini, hy, hlen, hl, hin, hse⟩ := cw
  have hK : Back l R p e below s args y 3 8 (PreOf R mc ms Pc) (PostOf Qc mc ms free) := va_backW (hh := hh) (bytes := bytes) (maxL := maxL) (ret := ret) hM hp.1 hrc hrs hfr hlo hws hcw (fun a' U hW => word_at hW (Or.inl (by first | rfl | simp [Cond.onTables, Cond.keeps, Cond.steady])) hini)
  obtain ⟨hx, hb, hml, ho, -⟩ := S
  obtain ⟨-, ⟨cellB, hcB, hoB, hclB⟩, hPc⟩ := hp
  intro T hT X
  obtain ⟨v, vm₁, ⟨U', l2, c2, s2⟩, hW₁, X', ⟨g', mk, t, L, e1, e2, hq, h1, hL, h2, h3⟩, st⟩ := vx_callVW X hx (C := C) (hh := hh) (bytes := bytes) (maxL := maxL) (ret := ret) ho hl hin hse hcode hy hK (by rw [hT]; exact hcB) hoB hclB hg (hsize.trans hml.symm) (argsL := As) (rest := rest) (fun sig h => hn.trans (hlen sig h)) hstack hW (by rw [hb]; exact hdg)
    (fun vm₁ hW₁ => ⟨hf.1, hf.2, hPc (T.setVm vm₁) hT hW₁⟩)
  dsimp only [Pt.U, Pt.locs, Pt.cells, Pt.slots] at X' e1 e2 h1 h2 h3 st
  subst h1; subst h2; subst h3
  exact ⟨v, (T.setVm vm₁).calling g' mk (Value.ref b :: As).toArray, t, U', L, hT, X', hL, e1, e2, hq, st⟩
section
variable {y : MethodName} {bytes cc : ByteArray} {maxL nL mc ms n index : Nat} {ret : Option FieldType} {ws : List Cond} {rm : Room} {Pc : Array Value → State → Prop} {Qc : Array Value → State → Outcome → State → Prop} {XC : String → State → State → Prop} {free : Addr → Prop} {Ts : List Cond} {own C : String} {b : Addr} {As rest : List Value} {g : JFrame}
theorem vx_runVX {hh : List (Nat × Nat × Nat × Nat)} (S : CallFix p m c cc nL s args Ts own) (hM : vx_Met l y ws rm Pc Qc XC mc ms free) (cw : vx_CVW R s args own C index y bytes maxL ret hh ws rm mc ms n) (hp : PreV s H C b Pc As)
    (hg : g.method = m) (hn : As.length = n) (hsize : g.locals.size = nL) (hstack : g.stack = As.reverse ++ .ref b :: rest) (hW : 2 * g.monitorRoom + (rest.map fun v => v.category).sum ≤ 8) (hdg : decode cc g.pc = .ok (.invokevirtual index, 3)) (hf : cells + mc ≤ R.cells ∧ slots + ms ≤ R.slots) :
    vx_Run p l e R s m args below meth c H locs cells slots mc ms g rest (Qc (Value.ref b :: As).toArray) XC free := by
  obtain ⟨⟨hrc, hrs, hfr, hlo, hws, hcw⟩, hcode, hini, hy, hlen, hl, hin, hse⟩ := cw
  have hK : vx_Back l R p e below s args y 3 8 (PreOf R mc ms Pc) (PostOf Qc mc ms free) (vx_Post XC mc ms free) := vx_backW (hh := hh) (bytes := bytes) (maxL := maxL) (ret := ret) hM hp.1 hrc hrs hfr hlo hws hcw (fun a' U hW => word_at hW (Or.inl (by first | rfl | simp [Cond.onTables, Cond.keeps, Cond.steady])) hini)
  obtain ⟨hx, hb, hml, ho, -⟩ := S
  obtain ⟨-, ⟨cellB, hcB, hoB, hclB⟩, hPc⟩ := hp
  intro T hT X
  rcases vx_callVX X hx (C := C) (hh := hh) (bytes := bytes) (maxL := maxL) (ret := ret) ho hl hin hse hcode hy hK (by rw [hT]; exact hcB) hoB hclB hg (hsize.trans hml.symm) (argsL := As) (rest := rest) (fun sig h => hn.trans (hlen sig h)) hstack hW (by rw [hb]; exact hdg)
    (fun vm₁ hW₁ => ⟨hf.1, hf.2, hPc (T.setVm vm₁) hT hW₁⟩) with ⟨v, vm₁, ⟨U', l2, c2, s2⟩, hW₁, X', ⟨g', mk, t, L, e1, e2, hq, h1, hL, h2, h3⟩, st⟩ | ⟨q, vm₁, ⟨U', l2, c2, s2⟩, hW₁, X', ⟨g', mk, t, L, E, ce, e1, e2, hq, hce, hcv, hcl, h1, hL, h2, h3⟩, st⟩
  · dsimp only [Pt.U, Pt.locs, Pt.cells, Pt.slots] at X' e1 e2 h1 h2 h3 st
    subst h1; subst h2; subst h3
    exact Or.inl ⟨v, (T.setVm vm₁).calling g' mk (Value.ref b :: As).toArray, t, U', L, hT, X', hL, e1, e2, hq, st⟩
  · dsimp only [Pt.U, Pt.locs, Pt.cells, Pt.slots] at X' e1 e2 h1 h2 h3 st hcl
    subst h1; subst h2; subst h3
    exact Or.inr ⟨q, (T.setVm vm₁).calling g' mk (Value.ref b :: As).toArray, t, U', L, E, ce, hT, X', hL, e1, e2, hq, hce, hcv, vx_cls hW₁ hcl, st⟩
theorem vx_runSX {hh : List (Nat × Nat × Nat × Nat)} (S : CallFix p m c cc nL s args Ts own) (hM : vx_Met l y ws rm Pc Qc XC mc ms free) (cw : vx_CSW R s args own index y bytes maxL ret hh ws rm mc ms n) (hp : PreS s H Pc As)
    (hg : g.method = m) (hn : As.length = n) (hsize : g.locals.size = nL) (hstack : g.stack = As.reverse ++ rest) (hW : 2 * g.monitorRoom + (rest.map fun v => v.category).sum ≤ 8) (hdg : decode cc g.pc = .ok (.invokestatic index, 3)) (hf : cells + mc ≤ R.cells ∧ slots + ms ≤ R.slots) :
    vx_Run p l e R s m args below meth c H locs cells slots mc ms g rest (Qc As.toArray) XC free := by
  obtain ⟨⟨hrc, hrs, hfr, hlo, hws, hcw⟩, hcode, hini, hy, hlen, hl, hstt⟩ := cw
  have hK : vx_Back l R p e below s args y 3 8 (PreOf R mc ms Pc) (PostOf Qc mc ms free) (vx_Post XC mc ms free) := vx_backW (hh := hh) (bytes := bytes) (maxL := maxL) (ret := ret) hM hp.1 hrc hrs hfr hlo hws hcw (fun a' U hW => word_at hW (Or.inl (by first | rfl | simp [Cond.onTables, Cond.keeps, Cond.steady])) hini)
  obtain ⟨hx, hb, hml, ho, -⟩ := S
  intro T hT X
  rcases vx_callSX X hx (hh := hh) (bytes := bytes) (maxL := maxL) (ret := ret) ho hl hstt hini hcode hy hK hg (hsize.trans hml.symm) (argsL := As) (rest := rest) (fun sig h => hn.trans (hlen sig h)) hstack hW (by rw [hb]; exact hdg)
    (fun vm₁ hW₁ => ⟨hf.1, hf.2, hp.2 (T.setVm vm₁) hT hW₁⟩) with ⟨v, vm₁, ⟨U', l2, c2, s2⟩, hW₁, X', ⟨g', mk, t, L, e1, e2, hq, h1, hL, h2, h3⟩, st⟩ | ⟨q, vm₁, ⟨U', l2, c2, s2⟩, hW₁, X', ⟨g', mk, t, L, E, ce, e1, e2, hq, hce, hcv, hcl, h1, hL, h2, h3⟩, st⟩
  · dsimp only [Pt.U, Pt.locs, Pt.cells, Pt.slots] at X' e1 e2 h1 h2 h3 st
    subst h1; subst h2; subst h3
    exact Or.inl ⟨v, (T.setVm vm₁).calling g' mk As.toArray, t, U', L, hT, X', hL, e1, e2, hq, st⟩
  · dsimp only [Pt.U, Pt.locs, Pt.cells, Pt.slots] at X' e1 e2 h1 h2 h3 st hcl
    subst h1; subst h2; subst h3
    exact Or.inr ⟨q, (T.setVm vm₁).calling g' mk As.toArray, t, U', L, E, ce, hT, X', hL, e1, e2, hq, hce, hcv, vx_cls hW₁ hcl, st⟩
end
end VXH
theorem vx_ofWH {l : Launch} {y : MethodName} {ws ws' : List Cond} {rm : Room} {Pc : Array Value → State → Prop} {Qc : Array Value → State → Outcome → State → Prop} {XC : String → State → State → Prop} {mc ms : Nat} {free : Addr → Prop} {cc : ByteArray} {maxL : Nat} {ret : Option FieldType} {hh : List (Nat × Nat × Nat × Nat)}
    (hy : plainName y.cls = true) (hw : ws = Cond.codeWith y cc maxL ret hh :: ws')
    (body : ∀ p e s m args below meth c s₁, BodyLoose p l y (headSpec ws rm) cc maxL ret e s m args below meth c s₁ → c.maxLocals = maxL → Pc args s →
      W p l e (headSpec ws rm).room s m args below meth c s.heap [] 0 0 (vx_MQ below Qc XC args s mc ms free) (entryFrame m args maxL)) : vx_Met l y ws rm Pc Qc XC mc ms free := by
  refine MetFree.of_bodyS (code := cc) (maxLocals := maxL) (ret := ret) hy ?_ ?_
  · intro args s m h hn
    obtain ⟨m9, meth, c, hn9, h1, h2, h3, h4, -, h5, h6, -⟩ := Cond.codeWith_spec (atoms_spec (ws := ws) h _ (by rw [hw]; exact List.mem_cons_self))
    cases hn.symm.trans hn9
    exact ⟨meth, c, h1, h2, h3, h4, h5, h6⟩
  · intro p e s m args below meth c s₁ B hml hP _
    have hh0 : s₁.heap = s.heap := by rw [B.state]; rfl
    obtain ⟨t, a1, o, b1, b2, b3⟩ := body p e s m args below meth c s₁ B hml hP s₁ hh0 (Stand.of_body B)
    exact ⟨t, o, a1, b1, b2, b3⟩
/-! ===== END ===== -/
end
section
/-- the first row of this method's table takes it (its class is linked cold or warm): on at the row's own pc, the thrown cell alone on the stack -/
theorem ct_catch {p : Program} {l : Launch} {e : Env} {R : Room} {s : State} {m : MethodId} {args : Array Value} {below : List Frame} {meth : Method} {c : Code} {H : Heap} {locs : List Loc} {cells slots : Nat} {Q : State → Prop} {pc : Nat} {ls : Array Slot} {rest : List Value}
    {own name E : String} {ce : Cell} {q : Addr} (hown : s.vm.findClass own = some m.cls) (x : ExceptionTableEntry) (suf : List ExceptionTableEntry) (hsplit : c.exceptionTable.toList = x :: suf) (hx : covers x pc = true) (h0 : x.catchType ≠ 0)
    (hlink : (Cond.classLink own x.catchType name).before args s = true) (hcast : (Cond.castable E name).before args s = true) (hcell : H[q]? = some ce) (hv : ce.vm = .none) (hcl : s.vm.findClass E = some ce.cls)
    (kk : W p l e R s m args below meth c H locs cells slots Q (F0 m x.handlerPc ls [.ref q])) : vx_W p l e R s m args below meth c H locs cells slots Q (F0 m pc ls rest) q := by
  intro T hT X
  have hpl : e.platform.magicAccessors = ({} : Platform).magicAccessors := by rw [X.admits.platform]
  obtain ⟨c3, c4, hc3, hc4, hasg⟩ := Cond.castable_spec hcast
  cases Option.some.inj (hc3.symm.trans hcl)
  obtain ⟨c5, hc5, hln⟩ := Cond.classLink_spec hown hlink e.platform hpl
  cases Option.some.inj (hc4.symm.trans hc5)
  obtain ⟨kE, hkE, -⟩ := Vm.findClass_spec hcl
  obtain ⟨dk, _, _, kt, hd, _, _, _, _, hkt, _, hopen⟩ := hln.here
  -- the state in which the search runs
  obtain ⟨S, hSd⟩ : ∃ S : State, S = (T.setTop (F0 m pc ls rest)).pushFrame (.throwing q) := ⟨_, rfl⟩
  have hSvm : S.vm = T.vm := by rw [hSd]; rfl
  have hSh : S.heap = H := by rw [hSd]; exact hT
  have hW : s.WarmedH S.vm := by rw [hSvm]; exact X.warmed
  have hlS := hW.classLinks hln
  obtain ⟨k1, hk1, -⟩ := hW.alike.2.2 _ _ hkE
  obtain ⟨k2, hk2, -⟩ := hW.alike.2.2 _ _ hkt
  obtain ⟨vm', hvm'⟩ : ∃ v : Vm, v = S.vm.noted m.cls x.catchType (.cls c4) := ⟨_, rfl⟩
  have hal : S.vm.Alike vm' := by rw [hvm']; exact (Vm.Alike.refl S.vm).noted _ _ _
  have hW' : s.WarmedH vm' := by rw [hvm']; exact hW.noted hd hopen (State.rightAt_cls hln)
  obtain ⟨k3, hk3, -⟩ := hal.2.2 _ _ hk1
  obtain ⟨k4, hk4, -⟩ := hal.2.2 _ _ hk2
  have hfit : vm'.assignable ce.cls c4 = true := by rw [hal.assignable, hW.alike.assignable]; exact hasg
  obtain ⟨ha, ht⟩ := (resolveClass_links e.toSetting hlS).op (op := VmOp.resolveClass m.cls x.catchType) rfl
  have hfind : ∀ (Q : Handler → Pre) (E : CtlPost) (d : Bool) (acts : List Action), wp (findHandler (F0 m pc ls rest) q) Q E e d acts S ↔ Q (.found x.handlerPc) d acts (S.setVm vm') := by
    intro Q E d acts
    have hx2 := hx
    simp only [covers] at hx2
    rw [W.findHandler_eq (meth := meth) (code := c) (by rw [hSvm]; exact X.method') X.code, hsplit]
    subst hvm'
    simp [findHandler.go, hx2, h0, ha, ht, hSh, hcell, hv, hk3, hk4, hfit, VmOp.dirties, VmOp.acts]
  obtain ⟨t, a1, b1⟩ := kk (T.setVm vm') hT (X.noted hW')
  refine ⟨t, ?_, b1⟩
  have hAt : At T (F0 m pc ls rest).method c below := X.here
  obtain ⟨hgo, hw⟩ := hAt.throwing q
  refine Steps.head hgo hw ?_
  have hst : (stepThrowing e S q (.java (F0 m pc ls rest) :: T.frames.tail)).Is ((S.setVm vm').setFrames (.java { F0 m pc ls rest with pc := x.handlerPc, stack := [.ref q] } :: T.frames.tail)) [] := by
    simp only [stepThrowing, searchFrame, vmDo]
    generalize hr : Sem.go _ e false [] S = res
    obtain ⟨as, rfl, ha9⟩ := Sem.eq_ok_of hr (a := Handler.found x.handlerPc) (s' := S.setVm vm') (acts' := []) (by simp [hfind _ _ _ _])
    exact ⟨rfl, ha9⟩
  rw [stepThread_throwing (frames_entered hAt.top _)]
  rw [hSd] at hst
  rw [hst.1]
  obtain ⟨g₀, hg⟩ := Option.isSome_iff_exists.mp hAt.top
  obtain ⟨r, hr⟩ := State.topJava?_eq_some.mp hg
  have e1 : (((T.setTop (F0 m pc ls rest)).pushFrame (.throwing q)).setVm vm').setFrames (.java { F0 m pc ls rest with pc := x.handlerPc, stack := [.ref q] } :: T.frames.tail) = (T.setVm vm').setTop (F0 m x.handlerPc ls [.ref q]) := by
    have hr' : (T.setVm vm').frames = .java g₀ :: r := hr
    rw [State.setTop_of_frames _ hr', hr, List.tail_cons, State.pushFrame, State.setTop_of_frames _ hr]
    rw [show ∀ (F G K : List Frame), (((T.setFrames F).setFrames G).setVm vm').setFrames K = (T.setVm vm').setFrames K from fun F G K => by
      rw [State.setFrames_setFrames]
      rw [show (T.setFrames G).setVm vm' = (T.setVm vm').setFrames G from rfl, State.setFrames_setFrames]]
  rw [e1]
  exact a1
end
section
/-! ===== BEGIN printed: names, fields, word lists, decode rows ===== -/
def RX0 : String := "TypeBench$Context"
def TX0 : u_T := fun k => match k with
  | 0 => ("TypeBench$Context", "nodes", "LTypeBench$Nodes;", true)
  | 1 => ("TypeBench$Context", "row", "[I", true)
  | 2 => ("TypeBench$Context", "places", "[I", true)
  | _ => ("TypeBench$Context", "length", "I", false)
def tyX0 : Nat → FieldType := fun k => match k with
  | 0 => .object "TypeBench$Nodes"
  | 1 => .array .int
  | 2 => .array .int
  | _ => .int
abbrev wsX00 : List Cond := u_ws RX0 TX0 4
theorem nmX0 : ∀ a, a < 4 → ∀ b, b < 4 → a ≠ b → (TX0 a).2.1 ≠ (TX0 b).2.1 := by decide +kernel
theorem tyX0_ok : ∀ k, k < 4 → parseFieldDescriptor (TX0 k).2.2.1 = some (tyX0 k) := by decide +kernel
abbrev cX0_init : ByteArray := prog_2_method_1_code
def yX0_init : MethodName := ⟨RX0, "<init>", "(LTypeBench$Nodes;)V"⟩
abbrev cX0_clear : ByteArray := prog_2_method_2_code
def yX0_clear : MethodName := ⟨RX0, "clear", "()V"⟩
abbrev cX0_add : ByteArray := prog_2_method_3_code
def yX0_add : MethodName := ⟨RX0, "add", "(I)I"⟩
abbrev cX0_addBefore : ByteArray := prog_2_method_4_code
def yX0_addBefore : MethodName := ⟨RX0, "addBefore", "(II)I"⟩
abbrev cX0_cutAt : ByteArray := prog_2_method_5_code
def yX0_cutAt : MethodName := ⟨RX0, "cutAt", "(I)V"⟩
abbrev cX0_isBefore : ByteArray := prog_2_method_6_code
def yX0_isBefore : MethodName := ⟨RX0, "isBefore", "(II)Z"⟩
abbrev cX0_typeOfLast : ByteArray := prog_2_method_7_code
def yX0_typeOfLast : MethodName := ⟨RX0, "typeOfLast", "(I)I"⟩
abbrev cX0_placeOf : ByteArray := prog_2_method_8_code
def yX0_placeOf : MethodName := ⟨RX0, "placeOf", "(I)I"⟩
def RX1 : String := "TypeBench$Judge"
def TX1 : u_T := fun k => match k with
  | 0 => ("TypeBench$Judge", "nodes", "LTypeBench$Nodes;", true)
  | 1 => ("TypeBench$Judge", "context", "LTypeBench$Context;", true)
  | 2 => ("TypeBench$Judge", "search", "LTypeBench$Search;", true)
  | 3 => ("TypeBench$Judge", "tasks", "[I", true)
  | 4 => ("TypeBench$Judge", "firsts", "[I", true)
  | 5 => ("TypeBench$Judge", "seconds", "[I", true)
  | 6 => ("TypeBench$Judge", "waiting", "I", false)
  | 7 => ("TypeBench$Judge", "failed", "Z", false)
  | 8 => ("TypeBench$Judge", "found", "I", false)
  | 9 => ("TypeBench$Judge", "made", "I", false)
  | _ => ("TypeBench$Judge", "solvedOnes", "I", false)
def tyX1 : Nat → FieldType := fun k => match k with
  | 0 => .object "TypeBench$Nodes"
  | 1 => .object "TypeBench$Context"
  | 2 => .object "TypeBench$Search"
  | 3 => .array .int
  | 4 => .array .int
  | 5 => .array .int
  | 6 => .int
  | 7 => .boolean
  | 8 => .int
  | 9 => .int
  | _ => .int
abbrev wsX10 : List Cond := u_ws RX1 TX1 11
theorem nmX1 : ∀ a, a < 11 → ∀ b, b < 11 → a ≠ b → (TX1 a).2.1 ≠ (TX1 b).2.1 := by decide +kernel
theorem tyX1_ok : ∀ k, k < 11 → parseFieldDescriptor (TX1 k).2.2.1 = some (tyX1 k) := by decide +kernel
abbrev cX1_init : ByteArray := prog_3_method_1_code
def yX1_init : MethodName := ⟨RX1, "<init>", "(LTypeBench$Nodes;)V"⟩
abbrev cX1_clear : ByteArray := prog_3_method_2_code
def yX1_clear : MethodName := ⟨RX1, "clear", "()V"⟩
abbrev cX1_askType : ByteArray := prog_3_method_3_code
def yX1_askType : MethodName := ⟨RX1, "askType", "(I)V"⟩
abbrev cX1_askBelow : ByteArray := prog_3_method_4_code
def yX1_askBelow : MethodName := ⟨RX1, "askBelow", "(II)V"⟩
abbrev cX1_decide : ByteArray := prog_3_method_5_code
def yX1_decide : MethodName := ⟨RX1, "decide", "()Z"⟩
abbrev cX1_foundType : ByteArray := prog_3_method_6_code
def yX1_foundType : MethodName := ⟨RX1, "foundType", "()I"⟩
abbrev cX1_madeUnknowns : ByteArray := prog_3_method_7_code
def yX1_madeUnknowns : MethodName := ⟨RX1, "madeUnknowns", "()I"⟩
abbrev cX1_solvedUnknowns : ByteArray := prog_3_method_8_code
def yX1_solvedUnknowns : MethodName := ⟨RX1, "solvedUnknowns", "()I"⟩
abbrev cX1_put : ByteArray := prog_3_method_9_code
def yX1_put : MethodName := ⟨RX1, "put", "(III)V"⟩
abbrev cX1_step : ByteArray := prog_3_method_10_code
def yX1_step : MethodName := ⟨RX1, "step", "(III)V"⟩
abbrev cX1_check : ByteArray := prog_3_method_11_code
def yX1_check : MethodName := ⟨RX1, "check", "(II)V"⟩
abbrev cX1_find : ByteArray := prog_3_method_12_code
def yX1_find : MethodName := ⟨RX1, "find", "(I)V"⟩
abbrev cX1_findAbstraction : ByteArray := prog_3_method_13_code
def yX1_findAbstraction : MethodName := ⟨RX1, "findAbstraction", "(I)V"⟩
abbrev cX1_apply : ByteArray := prog_3_method_14_code
def yX1_apply : MethodName := ⟨RX1, "apply", "(II)V"⟩
abbrev cX1_applyArrow : ByteArray := prog_3_method_15_code
def yX1_applyArrow : MethodName := ⟨RX1, "applyArrow", "(II)V"⟩
abbrev cX1_compare : ByteArray := prog_3_method_16_code
def yX1_compare : MethodName := ⟨RX1, "compare", "(II)V"⟩
abbrev cX1_set : ByteArray := prog_3_method_17_code
def yX1_set : MethodName := ⟨RX1, "set", "(III)V"⟩
abbrev cX1_split : ByteArray := prog_3_method_18_code
def yX1_split : MethodName := ⟨RX1, "split", "(I)I"⟩
abbrev cX1_solve : ByteArray := prog_3_method_19_code
def yX1_solve : MethodName := ⟨RX1, "solve", "(II)V"⟩
abbrev cX1_newUnknown : ByteArray := prog_3_method_20_code
def yX1_newUnknown : MethodName := ⟨RX1, "newUnknown", "()I"⟩
abbrev cX1_newBehind : ByteArray := prog_3_method_21_code
def yX1_newBehind : MethodName := ⟨RX1, "newBehind", "(I)I"⟩
abbrev cX1_bind : ByteArray := prog_3_method_22_code
def yX1_bind : MethodName := ⟨RX1, "bind", "(II)I"⟩
def RX2 : String := "TypeBench$Nodes"
def TX2 : u_T := fun k => match k with
  | 0 => ("TypeBench$Nodes", "kinds", "[I", true)
  | 1 => ("TypeBench$Nodes", "lefts", "[I", true)
  | 2 => ("TypeBench$Nodes", "rights", "[I", true)
  | 3 => ("TypeBench$Nodes", "loose", "[I", true)
  | 4 => ("TypeBench$Nodes", "simple", "[Z", true)
  | _ => ("TypeBench$Nodes", "used", "I", false)
def tyX2 : Nat → FieldType := fun k => match k with
  | 0 => .array .int
  | 1 => .array .int
  | 2 => .array .int
  | 3 => .array .int
  | 4 => .array .boolean
  | _ => .int
abbrev wsX20 : List Cond := u_ws RX2 TX2 6
theorem nmX2 : ∀ a, a < 6 → ∀ b, b < 6 → a ≠ b → (TX2 a).2.1 ≠ (TX2 b).2.1 := by decide +kernel
theorem tyX2_ok : ∀ k, k < 6 → parseFieldDescriptor (TX2 k).2.2.1 = some (tyX2 k) := by decide +kernel
abbrev cX2_init : ByteArray := prog_4_method_1_code
def yX2_init : MethodName := ⟨RX2, "<init>", "()V"⟩
abbrev cX2_clear : ByteArray := prog_4_method_2_code
def yX2_clear : MethodName := ⟨RX2, "clear", "()V"⟩
abbrev cX2_make : ByteArray := prog_4_method_3_code
def yX2_make : MethodName := ⟨RX2, "make", "(III)I"⟩
abbrev cX2_bound : ByteArray := prog_4_method_4_code
def yX2_bound : MethodName := ⟨RX2, "bound", "(I)I"⟩
abbrev cX2_arrow : ByteArray := prog_4_method_5_code
def yX2_arrow : MethodName := ⟨RX2, "arrow", "(II)I"⟩
abbrev cX2_forAll : ByteArray := prog_4_method_6_code
def yX2_forAll : MethodName := ⟨RX2, "forAll", "(I)I"⟩
abbrev cX2_has : ByteArray := prog_4_method_7_code
def yX2_has : MethodName := ⟨RX2, "has", "(I)Z"⟩
abbrev cX2_kind : ByteArray := prog_4_method_8_code
def yX2_kind : MethodName := ⟨RX2, "kind", "(I)I"⟩
abbrev cX2_left : ByteArray := prog_4_method_9_code
def yX2_left : MethodName := ⟨RX2, "left", "(I)I"⟩
abbrev cX2_right : ByteArray := prog_4_method_10_code
def yX2_right : MethodName := ⟨RX2, "right", "(I)I"⟩
abbrev cX2_isSimple : ByteArray := prog_4_method_11_code
def yX2_isSimple : MethodName := ⟨RX2, "isSimple", "(I)Z"⟩
abbrev cX2_solve : ByteArray := prog_4_method_12_code
def yX2_solve : MethodName := ⟨RX2, "solve", "(II)V"⟩
abbrev cX2_name : ByteArray := prog_4_method_13_code
def yX2_name : MethodName := ⟨RX2, "name", "(II)V"⟩
abbrev cX2_shown : ByteArray := prog_4_method_14_code
def yX2_shown : MethodName := ⟨RX2, "shown", "(I)I"⟩
abbrev cX2_open : ByteArray := prog_4_method_15_code
def yX2_open : MethodName := ⟨RX2, "open", "(II)I"⟩
abbrev cX2_replaced : ByteArray := prog_4_method_16_code
def yX2_replaced : MethodName := ⟨RX2, "replaced", "(IIII)I"⟩
def RX3 : String := "TypeBench$Printer"
def TX3 : u_T := fun k => match k with
  | 0 => ("TypeBench$Printer", "nodes", "LTypeBench$Nodes;", true)
  | 1 => ("TypeBench$Printer", "lengths", "[I", true)
  | 2 => ("TypeBench$Printer", "path", "[I", true)
  | 3 => ("TypeBench$Printer", "depth", "I", false)
  | 4 => ("TypeBench$Printer", "root", "I", false)
  | _ => ("TypeBench$Printer", "names", "I", false)
def tyX3 : Nat → FieldType := fun k => match k with
  | 0 => .object "TypeBench$Nodes"
  | 1 => .array .int
  | 2 => .array .int
  | 3 => .int
  | 4 => .int
  | _ => .int
abbrev wsX30 : List Cond := u_ws RX3 TX3 6
theorem nmX3 : ∀ a, a < 6 → ∀ b, b < 6 → a ≠ b → (TX3 a).2.1 ≠ (TX3 b).2.1 := by decide +kernel
theorem tyX3_ok : ∀ k, k < 6 → parseFieldDescriptor (TX3 k).2.2.1 = some (tyX3 k) := by decide +kernel
abbrev cX3_init : ByteArray := prog_5_method_1_code
def yX3_init : MethodName := ⟨RX3, "<init>", "(LTypeBench$Nodes;)V"⟩
abbrev cX3_clear : ByteArray := prog_5_method_2_code
def yX3_clear : MethodName := ⟨RX3, "clear", "()V"⟩
abbrev cX3_show : ByteArray := prog_5_method_3_code
def yX3_show : MethodName := ⟨RX3, "show", "(I)V"⟩
abbrev cX3_length : ByteArray := prog_5_method_4_code
def yX3_length : MethodName := ⟨RX3, "length", "()I"⟩
abbrev cX3_byteAt : ByteArray := prog_5_method_5_code
def yX3_byteAt : MethodName := ⟨RX3, "byteAt", "(I)I"⟩
abbrev cX3_lengthOf : ByteArray := prog_5_method_6_code
def yX3_lengthOf : MethodName := ⟨RX3, "lengthOf", "(I)I"⟩
abbrev cX3_descend : ByteArray := prog_5_method_7_code
def yX3_descend : MethodName := ⟨RX3, "descend", "(I)V"⟩
abbrev cX3_measure : ByteArray := prog_5_method_8_code
def yX3_measure : MethodName := ⟨RX3, "measure", "(I)V"⟩
abbrev cX3_nameUnknown : ByteArray := prog_5_method_9_code
def yX3_nameUnknown : MethodName := ⟨RX3, "nameUnknown", "(I)V"⟩
abbrev cX3_sign : ByteArray := prog_5_method_10_code
def yX3_sign : MethodName := ⟨RX3, "sign", "(I)I"⟩
def RX4 : String := "TypeBench$Reader"
def TX4 : u_T := fun k => match k with
  | 0 => ("TypeBench$Reader", "nodes", "LTypeBench$Nodes;", true)
  | 1 => ("TypeBench$Reader", "text", "[I", true)
  | 2 => ("TypeBench$Reader", "termBinders", "[I", true)
  | 3 => ("TypeBench$Reader", "typeBinders", "[I", true)
  | 4 => ("TypeBench$Reader", "openTypeBinders", "I", false)
  | 5 => ("TypeBench$Reader", "length", "I", false)
  | 6 => ("TypeBench$Reader", "next", "I", false)
  | 7 => ("TypeBench$Reader", "brackets", "I", false)
  | _ => ("TypeBench$Reader", "wrong", "I", false)
def tyX4 : Nat → FieldType := fun k => match k with
  | 0 => .object "TypeBench$Nodes"
  | 1 => .array .int
  | 2 => .array .int
  | 3 => .array .int
  | 4 => .int
  | 5 => .int
  | 6 => .int
  | 7 => .int
  | _ => .int
abbrev wsX40 : List Cond := u_ws RX4 TX4 9
theorem nmX4 : ∀ a, a < 9 → ∀ b, b < 9 → a ≠ b → (TX4 a).2.1 ≠ (TX4 b).2.1 := by decide +kernel
theorem tyX4_ok : ∀ k, k < 9 → parseFieldDescriptor (TX4 k).2.2.1 = some (tyX4 k) := by decide +kernel
abbrev cX4_init : ByteArray := prog_6_method_1_code
def yX4_init : MethodName := ⟨RX4, "<init>", "(LTypeBench$Nodes;[I)V"⟩
abbrev cX4_start : ByteArray := prog_6_method_2_code
def yX4_start : MethodName := ⟨RX4, "start", "(I)V"⟩
abbrev cX4_wrongAt : ByteArray := prog_6_method_3_code
def yX4_wrongAt : MethodName := ⟨RX4, "wrongAt", "()I"⟩
abbrev cX4_wholeTerm : ByteArray := prog_6_method_4_code
def yX4_wholeTerm : MethodName := ⟨RX4, "wholeTerm", "()I"⟩
abbrev cX4_typeBeforeSign : ByteArray := prog_6_method_5_code
def yX4_typeBeforeSign : MethodName := ⟨RX4, "typeBeforeSign", "()I"⟩
abbrev cX4_typeBehindSign : ByteArray := prog_6_method_6_code
def yX4_typeBehindSign : MethodName := ⟨RX4, "typeBehindSign", "()I"⟩
abbrev cX4_peek : ByteArray := prog_6_method_7_code
def yX4_peek : MethodName := ⟨RX4, "peek", "()I"⟩
abbrev cX4_take : ByteArray := prog_6_method_8_code
def yX4_take : MethodName := ⟨RX4, "take", "(I)Z"⟩
abbrev cX4_refuse : ByteArray := prog_6_method_9_code
def yX4_refuse : MethodName := ⟨RX4, "refuse", "()I"⟩
abbrev cX4_isLetter : ByteArray := prog_6_method_10_code
def yX4_isLetter : MethodName := ⟨RX4, "isLetter", "(I)Z"⟩
abbrev cX4_startsTermAtom : ByteArray := prog_6_method_11_code
def yX4_startsTermAtom : MethodName := ⟨RX4, "startsTermAtom", "(I)Z"⟩
abbrev cX4_term : ByteArray := prog_6_method_12_code
def yX4_term : MethodName := ⟨RX4, "term", "(I)I"⟩
abbrev cX4_termAtom : ByteArray := prog_6_method_13_code
def yX4_termAtom : MethodName := ⟨RX4, "termAtom", "(I)I"⟩
abbrev cX4_abstraction : ByteArray := prog_6_method_14_code
def yX4_abstraction : MethodName := ⟨RX4, "abstraction", "(I)I"⟩
abbrev cX4_letterAndPoint : ByteArray := prog_6_method_15_code
def yX4_letterAndPoint : MethodName := ⟨RX4, "letterAndPoint", "()I"⟩
abbrev cX4_termInBrackets : ByteArray := prog_6_method_16_code
def yX4_termInBrackets : MethodName := ⟨RX4, "termInBrackets", "(I)I"⟩
abbrev cX4_closed : ByteArray := prog_6_method_17_code
def yX4_closed : MethodName := ⟨RX4, "closed", "(I)I"⟩
abbrev cX4_type : ByteArray := prog_6_method_18_code
def yX4_type : MethodName := ⟨RX4, "type", "(I)I"⟩
abbrev cX4_typeAtom : ByteArray := prog_6_method_19_code
def yX4_typeAtom : MethodName := ⟨RX4, "typeAtom", "(I)I"⟩
abbrev cX4_forAll : ByteArray := prog_6_method_20_code
def yX4_forAll : MethodName := ⟨RX4, "forAll", "(I)I"⟩
abbrev cX4_typeInBrackets : ByteArray := prog_6_method_21_code
def yX4_typeInBrackets : MethodName := ⟨RX4, "typeInBrackets", "(I)I"⟩
abbrev cX4_typeLetter : ByteArray := prog_6_method_22_code
def yX4_typeLetter : MethodName := ⟨RX4, "typeLetter", "(I)I"⟩
def RX5 : String := "TypeBench$Search"
def TX5 : u_T := fun k => match k with
  | 0 => ("TypeBench$Search", "nodes", "LTypeBench$Nodes;", true)
  | 1 => ("TypeBench$Search", "context", "LTypeBench$Context;", true)
  | 2 => ("TypeBench$Search", "waiting", "[I", true)
  | 3 => ("TypeBench$Search", "visits", "[I", true)
  | 4 => ("TypeBench$Search", "count", "I", false)
  | _ => ("TypeBench$Search", "visit", "I", false)
def tyX5 : Nat → FieldType := fun k => match k with
  | 0 => .object "TypeBench$Nodes"
  | 1 => .object "TypeBench$Context"
  | 2 => .array .int
  | 3 => .array .int
  | 4 => .int
  | _ => .int
abbrev wsX50 : List Cond := u_ws RX5 TX5 6
theorem nmX5 : ∀ a, a < 6 → ∀ b, b < 6 → a ≠ b → (TX5 a).2.1 ≠ (TX5 b).2.1 := by decide +kernel
theorem tyX5_ok : ∀ k, k < 6 → parseFieldDescriptor (TX5 k).2.2.1 = some (tyX5 k) := by decide +kernel
abbrev cX5_init : ByteArray := prog_7_method_1_code
def yX5_init : MethodName := ⟨RX5, "<init>", "(LTypeBench$Nodes;LTypeBench$Context;)V"⟩
abbrev cX5_holds : ByteArray := prog_7_method_2_code
def yX5_holds : MethodName := ⟨RX5, "holds", "(II)Z"⟩
abbrev cX5_allBefore : ByteArray := prog_7_method_3_code
def yX5_allBefore : MethodName := ⟨RX5, "allBefore", "(II)Z"⟩
abbrev cX5_start : ByteArray := prog_7_method_4_code
def yX5_start : MethodName := ⟨RX5, "start", "(I)V"⟩
abbrev cX5_nextNode : ByteArray := prog_7_method_5_code
def yX5_nextNode : MethodName := ⟨RX5, "nextNode", "()I"⟩
abbrev cX5_await : ByteArray := prog_7_method_6_code
def yX5_await : MethodName := ⟨RX5, "await", "(I)V"⟩
def RX6 : String := "TypeBench"
def TX6 : u_T := fun k => match k with
  | 0 => ("TypeBench", "tape", "[I", true)
  | 1 => ("TypeBench", "fed", "I", false)
  | 2 => ("TypeBench", "wrongAt", "I", false)
  | 3 => ("TypeBench", "nodes", "LTypeBench$Nodes;", true)
  | 4 => ("TypeBench", "reader", "LTypeBench$Reader;", true)
  | 5 => ("TypeBench", "judge", "LTypeBench$Judge;", true)
  | _ => ("TypeBench", "printer", "LTypeBench$Printer;", true)
def tyX6 : Nat → FieldType := fun k => match k with
  | 0 => .array .int
  | 1 => .int
  | 2 => .int
  | 3 => .object "TypeBench$Nodes"
  | 4 => .object "TypeBench$Reader"
  | 5 => .object "TypeBench$Judge"
  | _ => .object "TypeBench$Printer"
abbrev wsX60 : List Cond := u_ws RX6 TX6 7
theorem nmX6 : ∀ a, a < 7 → ∀ b, b < 7 → a ≠ b → (TX6 a).2.1 ≠ (TX6 b).2.1 := by decide +kernel
theorem tyX6_ok : ∀ k, k < 7 → parseFieldDescriptor (TX6 k).2.2.1 = some (tyX6 k) := by decide +kernel
abbrev cX6_init : ByteArray := prog_1_method_1_code
def yX6_init : MethodName := ⟨RX6, "<init>", "()V"⟩
abbrev cX6_feed : ByteArray := prog_1_method_2_code
def yX6_feed : MethodName := ⟨RX6, "feed", "(JI)I"⟩
abbrev cX6_infer : ByteArray := prog_1_method_3_code
def yX6_infer : MethodName := ⟨RX6, "infer", "()Z"⟩
abbrev cX6_below : ByteArray := prog_1_method_4_code
def yX6_below : MethodName := ⟨RX6, "below", "()Z"⟩
abbrev cX6_place : ByteArray := prog_1_method_5_code
def yX6_place : MethodName := ⟨RX6, "place", "()I"⟩
abbrev cX6_size : ByteArray := prog_1_method_6_code
def yX6_size : MethodName := ⟨RX6, "size", "()I"⟩
abbrev cX6_out : ByteArray := prog_1_method_7_code
def yX6_out : MethodName := ⟨RX6, "out", "(I)I"⟩
abbrev cX6_unknowns : ByteArray := prog_1_method_8_code
def yX6_unknowns : MethodName := ⟨RX6, "unknowns", "()I"⟩
abbrev cX6_solved : ByteArray := prog_1_method_9_code
def yX6_solved : MethodName := ⟨RX6, "solved", "()I"⟩
abbrev cX6_startText : ByteArray := prog_1_method_10_code
def yX6_startText : MethodName := ⟨RX6, "startText", "()V"⟩
def RX7 : String := "TypeBenchModel"
def TX7 : u_T := fun k => match k with
  | 0 => ("TypeBenchModel", "thrown", "I", false)
  | 1 => ("TypeBenchModel", "tape", "[I", true)
  | 2 => ("TypeBenchModel", "taped", "I", false)
  | 3 => ("TypeBenchModel", "length", "I", false)
  | 4 => ("TypeBenchModel", "at", "I", false)
  | 5 => ("TypeBenchModel", "wrong", "Z", false)
  | 6 => ("TypeBenchModel", "place", "I", false)
  | 7 => ("TypeBenchModel", "depth", "I", false)
  | 8 => ("TypeBenchModel", "types", "I", false)
  | 9 => ("TypeBenchModel", "typeKind", "[I", true)
  | 10 => ("TypeBenchModel", "typeFirst", "[I", true)
  | 11 => ("TypeBenchModel", "typeSecond", "[I", true)
  | 12 => ("TypeBenchModel", "terms", "I", false)
  | 13 => ("TypeBenchModel", "termKind", "[I", true)
  | 14 => ("TypeBenchModel", "termFirst", "[I", true)
  | 15 => ("TypeBenchModel", "termSecond", "[I", true)
  | 16 => ("TypeBenchModel", "numbers", "I", false)
  | 17 => ("TypeBenchModel", "frame", "[I", true)
  | 18 => ("TypeBenchModel", "frameOf", "[I", true)
  | 19 => ("TypeBenchModel", "frameLetter", "[I", true)
  | 20 => ("TypeBenchModel", "frames", "I", false)
  | 21 => ("TypeBenchModel", "entries", "I", false)
  | 22 => ("TypeBenchModel", "entry", "[I", true)
  | 23 => ("TypeBenchModel", "entryOf", "[I", true)
  | 24 => ("TypeBenchModel", "entryType", "[I", true)
  | 25 => ("TypeBenchModel", "unknowns", "I", false)
  | 26 => ("TypeBenchModel", "solved", "I", false)
  | 27 => ("TypeBenchModel", "solution", "[I", true)
  | 28 => ("TypeBenchModel", "todo", "I", false)
  | 29 => ("TypeBenchModel", "act", "[I", true)
  | 30 => ("TypeBenchModel", "first", "[I", true)
  | 31 => ("TypeBenchModel", "second", "[I", true)
  | 32 => ("TypeBenchModel", "result", "I", false)
  | 33 => ("TypeBenchModel", "failed", "Z", false)
  | 34 => ("TypeBenchModel", "walk", "[I", true)
  | 35 => ("TypeBenchModel", "copy", "[I", true)
  | 36 => ("TypeBenchModel", "out", "[I", true)
  | 37 => ("TypeBenchModel", "outSize", "I", false)
  | _ => ("TypeBenchModel", "named", "[I", true)
def tyX7 : Nat → FieldType := fun k => match k with
  | 0 => .int
  | 1 => .array .int
  | 2 => .int
  | 3 => .int
  | 4 => .int
  | 5 => .boolean
  | 6 => .int
  | 7 => .int
  | 8 => .int
  | 9 => .array .int
  | 10 => .array .int
  | 11 => .array .int
  | 12 => .int
  | 13 => .array .int
  | 14 => .array .int
  | 15 => .array .int
  | 16 => .int
  | 17 => .array .int
  | 18 => .array .int
  | 19 => .array .int
  | 20 => .int
  | 21 => .int
  | 22 => .array .int
  | 23 => .array .int
  | 24 => .array .int
  | 25 => .int
  | 26 => .int
  | 27 => .array .int
  | 28 => .int
  | 29 => .array .int
  | 30 => .array .int
  | 31 => .array .int
  | 32 => .int
  | 33 => .boolean
  | 34 => .array .int
  | 35 => .array .int
  | 36 => .array .int
  | 37 => .int
  | _ => .array .int
abbrev wsX70 : List Cond := u_ws RX7 TX7 39
theorem nmX7 : ∀ a, a < 39 → ∀ b, b < 39 → a ≠ b → (TX7 a).2.1 ≠ (TX7 b).2.1 := by decide +kernel
theorem tyX7_ok : ∀ k, k < 39 → parseFieldDescriptor (TX7 k).2.2.1 = some (tyX7 k) := by decide +kernel
abbrev cX7_init : ByteArray := prog_9_method_1_code
def yX7_init : MethodName := ⟨RX7, "<init>", "()V"⟩
abbrev cX7_thrown : ByteArray := prog_9_method_2_code
def yX7_thrown : MethodName := ⟨RX7, "thrown", "()I"⟩
abbrev cX7_throwing : ByteArray := prog_9_method_3_code
def yX7_throwing : MethodName := ⟨RX7, "throwing", "(ZZ)Z"⟩
abbrev cX7_feed : ByteArray := prog_9_method_4_code
def yX7_feed : MethodName := ⟨RX7, "feed", "(JI)I"⟩
abbrev cX7_type : ByteArray := prog_9_method_5_code
def yX7_type : MethodName := ⟨RX7, "type", "(III)I"⟩
abbrev cX7_term : ByteArray := prog_9_method_6_code
def yX7_term : MethodName := ⟨RX7, "term", "(III)I"⟩
abbrev cX7_see : ByteArray := prog_9_method_7_code
def yX7_see : MethodName := ⟨RX7, "see", "()I"⟩
abbrev cX7_fail : ByteArray := prog_9_method_8_code
def yX7_fail : MethodName := ⟨RX7, "fail", "()V"⟩
abbrev cX7_isLetter : ByteArray := prog_9_method_9_code
def yX7_isLetter : MethodName := ⟨RX7, "isLetter", "(I)Z"⟩
abbrev cX7_open : ByteArray := prog_9_method_10_code
def yX7_open : MethodName := ⟨RX7, "open", "(III)V"⟩
abbrev cX7_binder : ByteArray := prog_9_method_11_code
def yX7_binder : MethodName := ⟨RX7, "binder", "(II)I"⟩
abbrev cX7_bind : ByteArray := prog_9_method_12_code
def yX7_bind : MethodName := ⟨RX7, "bind", "()I"⟩
abbrev cX7_bracket : ByteArray := prog_9_method_13_code
def yX7_bracket : MethodName := ⟨RX7, "bracket", "()Z"⟩
abbrev cX7_readType : ByteArray := prog_9_method_14_code
def yX7_readType : MethodName := ⟨RX7, "readType", "()I"⟩
abbrev cX7_readTerm : ByteArray := prog_9_method_15_code
def yX7_readTerm : MethodName := ⟨RX7, "readTerm", "()I"⟩
abbrev cX7_begin : ByteArray := prog_9_method_16_code
def yX7_begin : MethodName := ⟨RX7, "begin", "()V"⟩
abbrev cX7_seen : ByteArray := prog_9_method_17_code
def yX7_seen : MethodName := ⟨RX7, "seen", "(I)I"⟩
abbrev cX7_rest : ByteArray := prog_9_method_18_code
def yX7_rest : MethodName := ⟨RX7, "rest", "(II)I"⟩
abbrev cX7_indexOf : ByteArray := prog_9_method_19_code
def yX7_indexOf : MethodName := ⟨RX7, "indexOf", "(II)I"⟩
abbrev cX7_add : ByteArray := prog_9_method_20_code
def yX7_add : MethodName := ⟨RX7, "add", "(III)V"⟩
abbrev cX7_newUnknown : ByteArray := prog_9_method_21_code
def yX7_newUnknown : MethodName := ⟨RX7, "newUnknown", "()I"⟩
abbrev cX7_solve : ByteArray := prog_9_method_22_code
def yX7_solve : MethodName := ⟨RX7, "solve", "(II)V"⟩
abbrev cX7_isIn : ByteArray := prog_9_method_23_code
def yX7_isIn : MethodName := ⟨RX7, "isIn", "(II)Z"⟩
abbrev cX7_isBefore : ByteArray := prog_9_method_24_code
def yX7_isBefore : MethodName := ⟨RX7, "isBefore", "(II)Z"⟩
abbrev cX7_push : ByteArray := prog_9_method_25_code
def yX7_push : MethodName := ⟨RX7, "push", "(III)V"⟩
abbrev cX7_withVariable : ByteArray := prog_9_method_26_code
def yX7_withVariable : MethodName := ⟨RX7, "withVariable", "(I)I"⟩
abbrev cX7_withUnknown : ByteArray := prog_9_method_27_code
def yX7_withUnknown : MethodName := ⟨RX7, "withUnknown", "(I)I"⟩
abbrev cX7_split : ByteArray := prog_9_method_28_code
def yX7_split : MethodName := ⟨RX7, "split", "(I)I"⟩
abbrev cX7_compare : ByteArray := prog_9_method_29_code
def yX7_compare : MethodName := ⟨RX7, "compare", "(II)V"⟩
abbrev cX7_set : ByteArray := prog_9_method_30_code
def yX7_set : MethodName := ⟨RX7, "set", "(ZII)V"⟩
abbrev cX7_check : ByteArray := prog_9_method_31_code
def yX7_check : MethodName := ⟨RX7, "check", "(II)V"⟩
abbrev cX7_find : ByteArray := prog_9_method_32_code
def yX7_find : MethodName := ⟨RX7, "find", "(I)V"⟩
abbrev cX7_apply : ByteArray := prog_9_method_33_code
def yX7_apply : MethodName := ⟨RX7, "apply", "(I)V"⟩
abbrev cX7_run : ByteArray := prog_9_method_34_code
def yX7_run : MethodName := ⟨RX7, "run", "()V"⟩
abbrev cX7_print : ByteArray := prog_9_method_35_code
def yX7_print : MethodName := ⟨RX7, "print", "(I)V"⟩
abbrev cX7_infer : ByteArray := prog_9_method_36_code
def yX7_infer : MethodName := ⟨RX7, "infer", "()Z"⟩
abbrev cX7_below : ByteArray := prog_9_method_37_code
def yX7_below : MethodName := ⟨RX7, "below", "()Z"⟩
abbrev cX7_place : ByteArray := prog_9_method_38_code
def yX7_place : MethodName := ⟨RX7, "place", "()I"⟩
abbrev cX7_size : ByteArray := prog_9_method_39_code
def yX7_size : MethodName := ⟨RX7, "size", "()I"⟩
abbrev cX7_out : ByteArray := prog_9_method_40_code
def yX7_out : MethodName := ⟨RX7, "out", "(I)I"⟩
abbrev cX7_unknowns : ByteArray := prog_9_method_41_code
def yX7_unknowns : MethodName := ⟨RX7, "unknowns", "()I"⟩
abbrev cX7_solved : ByteArray := prog_9_method_42_code
def yX7_solved : MethodName := ⟨RX7, "solved", "()I"⟩
def RJ9 : String := "java/lang/Math"
def TJ9 : u_T := fun k => match k with
  | _ => ("", "", "", false)
def tyJ9 : Nat → FieldType := fun k => match k with
  | _ => .int
abbrev wsJ90 : List Cond := u_ws RJ9 TJ9 0
theorem nmJ9 : ∀ a, a < 0 → ∀ b, b < 0 → a ≠ b → (TJ9 a).2.1 ≠ (TJ9 b).2.1 := by decide +kernel
theorem tyJ9_ok : ∀ k, k < 0 → parseFieldDescriptor (TJ9 k).2.2.1 = some (tyJ9 k) := by decide +kernel
abbrev cJ9_max_7cf53 : ByteArray := prog_14_method_65_code
def yJ9_max_7cf53 : MethodName := ⟨RJ9, "max", "(II)I"⟩
abbrev cJ9_min_7cf53 : ByteArray := prog_14_method_69_code
def yJ9_min_7cf53 : MethodName := ⟨RJ9, "min", "(II)I"⟩
abbrev cJ9_min_f86c9 : ByteArray := prog_14_method_70_code
def yJ9_min_f86c9 : MethodName := ⟨RJ9, "min", "(JJ)J"⟩
def RJ0 : String := "java/lang/String"
def TJ0 : u_T := fun k => match k with
  | _ => ("", "", "", false)
def tyJ0 : Nat → FieldType := fun k => match k with
  | _ => .int
abbrev wsJ00 : List Cond := u_ws RJ0 TJ0 0
theorem nmJ0 : ∀ a, a < 0 → ∀ b, b < 0 → a ≠ b → (TJ0 a).2.1 ≠ (TJ0 b).2.1 := by decide +kernel
theorem tyJ0_ok : ∀ k, k < 0 → parseFieldDescriptor (TJ0 k).2.2.1 = some (tyJ0 k) := by decide +kernel
def RJ7 : String := "java/util/Arrays"
def TJ7 : u_T := fun k => match k with
  | _ => ("", "", "", false)
def tyJ7 : Nat → FieldType := fun k => match k with
  | _ => .int
abbrev wsJ70 : List Cond := u_ws RJ7 TJ7 0
theorem nmJ7 : ∀ a, a < 0 → ∀ b, b < 0 → a ≠ b → (TJ7 a).2.1 ≠ (TJ7 b).2.1 := by decide +kernel
theorem tyJ7_ok : ∀ k, k < 0 → parseFieldDescriptor (TJ7 k).2.2.1 = some (tyJ7 k) := by decide +kernel
abbrev cJ7_fill_53178 : ByteArray := prog_18_method_103_code
def yJ7_fill_53178 : MethodName := ⟨RJ7, "fill", "([II)V"⟩
def RL : String := "TypeBenchLaw"
abbrev cL_feed : ByteArray := method_3_code
def yL_feed : MethodName := ⟨RL, "feed", "(LTypeBench;JI[J)I"⟩
abbrev cL_infer : ByteArray := method_4_code
def yL_infer : MethodName := ⟨RL, "infer", "(LTypeBench;[J)I"⟩
abbrev cL_below : ByteArray := method_5_code
def yL_below : MethodName := ⟨RL, "below", "(LTypeBench;[J)I"⟩
abbrev cL_out : ByteArray := method_6_code
def yL_out : MethodName := ⟨RL, "out", "(LTypeBench;I[J)I"⟩
abbrev cL_law : ByteArray := code
def yL_law : MethodName := ⟨RL, "law", "([I)Z"⟩
abbrev vwCl : List vw_C := [(RX0, TX0, 4), (RX1, TX1, 11), (RX2, TX2, 6), (RX3, TX3, 6), (RX4, TX4, 9), (RX5, TX5, 6), (RX6, TX6, 7), (RX7, TX7, 39)]
end
section
/-! the tables' words that hold on in every later state: one list for all methods -/
def gw_all : List Cond := lw_tbl.filter goodWord
theorem gw_m {w : Cond} (i : Nat) (h : lw_tbl[i]? = some w) (g : goodWord w = true) : w ∈ gw_all := List.mem_filter.mpr ⟨List.mem_of_getElem? h, g⟩
theorem gw_in : ∀ w ∈ gw_all, w ∈ lw_tbl := fun _ h => (List.mem_filter.mp h).1
theorem gw_ok : GoodIn gw_all gw_all := fun _ h => ⟨h, good_of_word (List.mem_filter.mp h).2⟩
theorem gw_1 {w : Cond} (h : w ∈ gw_all) : GoodIn gw_all (w :: gw_all) := fun v hv => (List.mem_cons.mp hv).elim (fun e => by rw [e]; exact gw_ok w h) (gw_ok v)
theorem gw_V {own C : String} {i : Nat} {y : MethodName} {ws : List Cond} (h1 : Cond.methodLink own i y ∈ gw_all) (h2 : Cond.instanceMethod y ∈ gw_all) (h3 : Cond.selects C y y ∈ gw_all) (h4 : Cond.initialized C ∈ gw_all) (h : GoodIn gw_all ws) : GoodIn gw_all (wsV own i C y ws) := by
  intro w hw
  rcases List.mem_append.mp hw with hw | hw
  · simp only [List.mem_cons, List.not_mem_nil, or_false] at hw
    rcases hw with rfl | rfl | rfl | rfl
    · exact gw_ok _ h1
    · exact gw_ok _ h2
    · exact gw_ok _ h3
    · exact gw_ok _ h4
  · exact h w hw
theorem gw_S {own : String} {i : Nat} {y : MethodName} {ws : List Cond} (h1 : Cond.methodLink own i y ∈ gw_all) (h2 : Cond.static y ∈ gw_all) (h4 : Cond.initialized y.cls ∈ gw_all) (h : GoodIn gw_all ws) : GoodIn gw_all (va_wsS own i y ws) := by
  intro w hw
  rcases List.mem_append.mp hw with hw | hw
  · simp only [List.mem_cons, List.not_mem_nil, or_false] at hw
    rcases hw with rfl | rfl | rfl
    · exact gw_ok _ h1
    · exact gw_ok _ h2
    · exact gw_ok _ h4
  · exact h w hw
theorem gw_r (ws : List Cond) (ps : List Nat) (hp : ws = ps.filterMap (fun i => lw_tbl[i]?)) (h : ws.all goodWord = true) : ∀ w ∈ ws, w ∈ gw_all := by
  intro w hw
  have h1 := List.all_eq_true.mp h w hw
  rw [hp] at hw
  obtain ⟨i, -, hi⟩ := List.mem_filterMap.mp hw
  exact gw_m i hi h1
/-- a method's words: its code, and those of the list -/
abbrev wd (y : MethodName) (b : ByteArray) (n : Nat) (r : Option FieldType) : List Cond := .code y b n r :: gw_all
abbrev wh (y : MethodName) (b : ByteArray) (n : Nat) (r : Option FieldType) (hh : List (Nat × Nat × Nat × Nat)) : List Cond := .codeWith y b n r hh :: gw_all
theorem gw_hts {w0 : Cond} {args : Array Value} {s : State} (h : ∀ w ∈ w0 :: gw_all, w.before args s = true) : ∀ w ∈ gw_all, w.before args s = true := fun w hw => h w (List.mem_cons_of_mem _ hw)

theorem i_X0 : ∀ w ∈ u_ws RX0 TX0 4, w ∈ gw_all := gw_r _ [173, 175, 177, 179] (by decide +kernel) (by decide +kernel)
theorem i_X1 : ∀ w ∈ u_ws RX1 TX1 11, w ∈ gw_all := gw_r _ [218, 220, 222, 224, 226, 228, 230, 232, 234, 236, 238] (by decide +kernel) (by decide +kernel)
theorem i_X2 : ∀ w ∈ u_ws RX2 TX2 6, w ∈ gw_all := gw_r _ [108, 110, 112, 114, 116, 118] (by decide +kernel) (by decide +kernel)
theorem i_X3 : ∀ w ∈ u_ws RX3 TX3 6, w ∈ gw_all := gw_r _ [253, 255, 257, 259, 261, 263] (by decide +kernel) (by decide +kernel)
theorem i_X4 : ∀ w ∈ u_ws RX4 TX4 9, w ∈ gw_all := gw_r _ [138, 140, 142, 144, 146, 148, 150, 152, 154] (by decide +kernel) (by decide +kernel)
theorem i_X5 : ∀ w ∈ u_ws RX5 TX5 6, w ∈ gw_all := gw_r _ [194, 196, 198, 200, 202, 204] (by decide +kernel) (by decide +kernel)
theorem i_X6 : ∀ w ∈ u_ws RX6 TX6 7, w ∈ gw_all := gw_r _ [273, 275, 277, 279, 281, 283, 285] (by decide +kernel) (by decide +kernel)
theorem i_X7 : ∀ w ∈ u_ws RX7 TX7 39, w ∈ gw_all := gw_r _ [837, 839, 841, 843, 845, 847, 849, 851, 853, 855, 857, 859, 861, 863, 865, 867, 869, 871, 873, 875, 877, 879, 881, 883, 885, 887, 889, 891, 893, 895, 897, 899, 901, 903, 905, 907, 909, 911, 913] (by decide +kernel) (by decide +kernel)
theorem df_X0 : ∀ j, j < 4 → defaultValue (tyX0 j) = vp_V [.null, .null, .null, .int 0] j := fun j hj => by
  match j, hj with
  | 0, _ => rfl
  | 1, _ => rfl
  | 2, _ => rfl
  | 3, _ => rfl
  | n + 4, h => exact absurd h (by omega)
theorem df_X1 : ∀ j, j < 11 → defaultValue (tyX1 j) = vp_V [.null, .null, .null, .null, .null, .null, .int 0, .int 0, .int 0, .int 0, .int 0] j := fun j hj => by
  match j, hj with
  | 0, _ => rfl
  | 1, _ => rfl
  | 2, _ => rfl
  | 3, _ => rfl
  | 4, _ => rfl
  | 5, _ => rfl
  | 6, _ => rfl
  | 7, _ => rfl
  | 8, _ => rfl
  | 9, _ => rfl
  | 10, _ => rfl
  | n + 11, h => exact absurd h (by omega)
theorem df_X2 : ∀ j, j < 6 → defaultValue (tyX2 j) = vp_V [.null, .null, .null, .null, .null, .int 0] j := fun j hj => by
  match j, hj with
  | 0, _ => rfl
  | 1, _ => rfl
  | 2, _ => rfl
  | 3, _ => rfl
  | 4, _ => rfl
  | 5, _ => rfl
  | n + 6, h => exact absurd h (by omega)
theorem df_X3 : ∀ j, j < 6 → defaultValue (tyX3 j) = vp_V [.null, .null, .null, .int 0, .int 0, .int 0] j := fun j hj => by
  match j, hj with
  | 0, _ => rfl
  | 1, _ => rfl
  | 2, _ => rfl
  | 3, _ => rfl
  | 4, _ => rfl
  | 5, _ => rfl
  | n + 6, h => exact absurd h (by omega)
theorem df_X4 : ∀ j, j < 9 → defaultValue (tyX4 j) = vp_V [.null, .null, .null, .null, .int 0, .int 0, .int 0, .int 0, .int 0] j := fun j hj => by
  match j, hj with
  | 0, _ => rfl
  | 1, _ => rfl
  | 2, _ => rfl
  | 3, _ => rfl
  | 4, _ => rfl
  | 5, _ => rfl
  | 6, _ => rfl
  | 7, _ => rfl
  | 8, _ => rfl
  | n + 9, h => exact absurd h (by omega)
theorem df_X5 : ∀ j, j < 6 → defaultValue (tyX5 j) = vp_V [.null, .null, .null, .null, .int 0, .int 0] j := fun j hj => by
  match j, hj with
  | 0, _ => rfl
  | 1, _ => rfl
  | 2, _ => rfl
  | 3, _ => rfl
  | 4, _ => rfl
  | 5, _ => rfl
  | n + 6, h => exact absurd h (by omega)
theorem df_X6 : ∀ j, j < 7 → defaultValue (tyX6 j) = vp_V [.null, .int 0, .int 0, .null, .null, .null, .null] j := fun j hj => by
  match j, hj with
  | 0, _ => rfl
  | 1, _ => rfl
  | 2, _ => rfl
  | 3, _ => rfl
  | 4, _ => rfl
  | 5, _ => rfl
  | 6, _ => rfl
  | n + 7, h => exact absurd h (by omega)
theorem df_X7 : ∀ j, j < 39 → defaultValue (tyX7 j) = vp_V [.int 0, .null, .int 0, .int 0, .int 0, .int 0, .int 0, .int 0, .int 0, .null, .null, .null, .int 0, .null, .null, .null, .int 0, .null, .null, .null, .int 0, .int 0, .null, .null, .null, .int 0, .int 0, .null, .int 0, .null, .null, .null, .int 0, .int 0, .null, .null, .null, .int 0, .null] j := fun j hj => by
  match j, hj with
  | 0, _ => rfl
  | 1, _ => rfl
  | 2, _ => rfl
  | 3, _ => rfl
  | 4, _ => rfl
  | 5, _ => rfl
  | 6, _ => rfl
  | 7, _ => rfl
  | 8, _ => rfl
  | 9, _ => rfl
  | 10, _ => rfl
  | 11, _ => rfl
  | 12, _ => rfl
  | 13, _ => rfl
  | 14, _ => rfl
  | 15, _ => rfl
  | 16, _ => rfl
  | 17, _ => rfl
  | 18, _ => rfl
  | 19, _ => rfl
  | 20, _ => rfl
  | 21, _ => rfl
  | 22, _ => rfl
  | 23, _ => rfl
  | 24, _ => rfl
  | 25, _ => rfl
  | 26, _ => rfl
  | 27, _ => rfl
  | 28, _ => rfl
  | 29, _ => rfl
  | 30, _ => rfl
  | 31, _ => rfl
  | 32, _ => rfl
  | 33, _ => rfl
  | 34, _ => rfl
  | 35, _ => rfl
  | 36, _ => rfl
  | 37, _ => rfl
  | 38, _ => rfl
  | n + 39, h => exact absurd h (by omega)
theorem k_0 : Cond.code yX0_init cX0_init 2 none ∈ gw_all := gw_m 167 (by decide +kernel) rfl
theorem k_1 : Cond.code yX5_init cX5_init 3 none ∈ gw_all := gw_m 186 (by decide +kernel) rfl
theorem k_2 : Cond.code yX1_init cX1_init 2 none ∈ gw_all := gw_m 161 (by decide +kernel) rfl
theorem k_3 : Cond.code yX2_init cX2_init 1 none ∈ gw_all := gw_m 100 (by decide +kernel) rfl
theorem k_4 : Cond.code yX3_init cX3_init 2 none ∈ gw_all := gw_m 245 (by decide +kernel) rfl
theorem k_5 : Cond.code yX4_init cX4_init 3 none ∈ gw_all := gw_m 127 (by decide +kernel) rfl
theorem k_6 : Cond.code yX6_init cX6_init 1 none ∈ gw_all := gw_m 92 (by decide +kernel) rfl
theorem k_7 : Cond.code yX7_init cX7_init 1 none ∈ gw_all := gw_m 795 (by decide +kernel) rfl
theorem k_8 : Cond.methodLink RX0 3 objectInit ∈ gw_all := gw_m 168 (by decide +kernel) rfl
theorem k_9 : Cond.instanceMethod objectInit ∈ gw_all := gw_m 94 (by decide +kernel) rfl
theorem k_10 : Cond.code objectInit ⟨#[0xb1]⟩ 1 none ∈ gw_all := gw_m 95 (by decide +kernel) rfl
theorem k_11 : Cond.arrayClass .int ∈ gw_all := gw_m 121 (by decide +kernel) rfl
theorem k_12 : Cond.fieldLink RX0 9 "TypeBench$Context" "row" "[I" ∈ gw_all := gw_m 170 (by decide +kernel) rfl
theorem k_13 : Cond.fieldLink RX0 15 "TypeBench$Context" "places" "[I" ∈ gw_all := gw_m 171 (by decide +kernel) rfl
theorem k_14 : Cond.fieldLink RX0 18 "TypeBench$Context" "length" "I" ∈ gw_all := gw_m 172 (by decide +kernel) rfl
theorem k_15 : Cond.fieldLink RX0 22 "TypeBench$Context" "nodes" "LTypeBench$Nodes;" ∈ gw_all := gw_m 169 (by decide +kernel) rfl
theorem k_16 : Cond.methodLink RX5 3 objectInit ∈ gw_all := gw_m 187 (by decide +kernel) rfl
theorem k_17 : Cond.fieldLink RX5 9 "TypeBench$Search" "waiting" "[I" ∈ gw_all := gw_m 190 (by decide +kernel) rfl
theorem k_18 : Cond.fieldLink RX5 15 "TypeBench$Search" "visits" "[I" ∈ gw_all := gw_m 191 (by decide +kernel) rfl
theorem k_19 : Cond.fieldLink RX5 18 "TypeBench$Search" "count" "I" ∈ gw_all := gw_m 192 (by decide +kernel) rfl
theorem k_20 : Cond.fieldLink RX5 22 "TypeBench$Search" "visit" "I" ∈ gw_all := gw_m 193 (by decide +kernel) rfl
theorem k_21 : Cond.fieldLink RX5 25 "TypeBench$Search" "nodes" "LTypeBench$Nodes;" ∈ gw_all := gw_m 188 (by decide +kernel) rfl
theorem k_22 : Cond.fieldLink RX5 29 "TypeBench$Search" "context" "LTypeBench$Context;" ∈ gw_all := gw_m 189 (by decide +kernel) rfl
theorem k_23 : Cond.methodLink RX1 3 objectInit ∈ gw_all := gw_m 162 (by decide +kernel) rfl
theorem k_24 : Cond.fieldLink RX1 9 "TypeBench$Judge" "tasks" "[I" ∈ gw_all := gw_m 210 (by decide +kernel) rfl
theorem k_25 : Cond.fieldLink RX1 15 "TypeBench$Judge" "firsts" "[I" ∈ gw_all := gw_m 211 (by decide +kernel) rfl
theorem k_26 : Cond.fieldLink RX1 18 "TypeBench$Judge" "seconds" "[I" ∈ gw_all := gw_m 212 (by decide +kernel) rfl
theorem k_27 : Cond.fieldLink RX1 21 "TypeBench$Judge" "waiting" "I" ∈ gw_all := gw_m 213 (by decide +kernel) rfl
theorem k_28 : Cond.fieldLink RX1 25 "TypeBench$Judge" "failed" "Z" ∈ gw_all := gw_m 214 (by decide +kernel) rfl
theorem k_29 : Cond.fieldLink RX1 29 "TypeBench$Judge" "found" "I" ∈ gw_all := gw_m 215 (by decide +kernel) rfl
theorem k_30 : Cond.fieldLink RX1 32 "TypeBench$Judge" "made" "I" ∈ gw_all := gw_m 216 (by decide +kernel) rfl
theorem k_31 : Cond.fieldLink RX1 35 "TypeBench$Judge" "solvedOnes" "I" ∈ gw_all := gw_m 217 (by decide +kernel) rfl
theorem k_32 : Cond.fieldLink RX1 38 "TypeBench$Judge" "nodes" "LTypeBench$Nodes;" ∈ gw_all := gw_m 207 (by decide +kernel) rfl
theorem k_33 : Cond.classLink RX1 42 RX0 ∈ gw_all := gw_m 163 (by decide +kernel) rfl
theorem k_34 : Cond.instantiable RX0 4 ∈ gw_all := gw_m 164 (by decide +kernel) rfl
theorem k_35 : Cond.initialized RX0 ∈ gw_all := gw_m 76 (by decide +kernel) rfl
theorem k_36 : Cond.methodLink RX1 44 yX0_init ∈ gw_all := gw_m 165 (by decide +kernel) rfl
theorem k_37 : Cond.instanceMethod yX0_init ∈ gw_all := gw_m 166 (by decide +kernel) rfl
theorem k_38 : Cond.fieldLink RX1 47 "TypeBench$Judge" "context" "LTypeBench$Context;" ∈ gw_all := gw_m 208 (by decide +kernel) rfl
theorem k_39 : Cond.classLink RX1 51 RX5 ∈ gw_all := gw_m 182 (by decide +kernel) rfl
theorem k_40 : Cond.instantiable RX5 6 ∈ gw_all := gw_m 183 (by decide +kernel) rfl
theorem k_41 : Cond.initialized RX5 ∈ gw_all := gw_m 77 (by decide +kernel) rfl
theorem k_42 : Cond.methodLink RX1 53 yX5_init ∈ gw_all := gw_m 184 (by decide +kernel) rfl
theorem k_43 : Cond.instanceMethod yX5_init ∈ gw_all := gw_m 185 (by decide +kernel) rfl
theorem k_44 : Cond.fieldLink RX1 56 "TypeBench$Judge" "search" "LTypeBench$Search;" ∈ gw_all := gw_m 209 (by decide +kernel) rfl
theorem k_45 : Cond.methodLink RX2 3 objectInit ∈ gw_all := gw_m 101 (by decide +kernel) rfl
theorem k_46 : Cond.fieldLink RX2 9 "TypeBench$Nodes" "kinds" "[I" ∈ gw_all := gw_m 102 (by decide +kernel) rfl
theorem k_47 : Cond.fieldLink RX2 15 "TypeBench$Nodes" "lefts" "[I" ∈ gw_all := gw_m 103 (by decide +kernel) rfl
theorem k_48 : Cond.fieldLink RX2 18 "TypeBench$Nodes" "rights" "[I" ∈ gw_all := gw_m 104 (by decide +kernel) rfl
theorem k_49 : Cond.fieldLink RX2 21 "TypeBench$Nodes" "loose" "[I" ∈ gw_all := gw_m 105 (by decide +kernel) rfl
theorem k_50 : Cond.arrayClass .boolean ∈ gw_all := gw_m 122 (by decide +kernel) rfl
theorem k_51 : Cond.fieldLink RX2 24 "TypeBench$Nodes" "simple" "[Z" ∈ gw_all := gw_m 106 (by decide +kernel) rfl
theorem k_52 : Cond.fieldLink RX2 28 "TypeBench$Nodes" "used" "I" ∈ gw_all := gw_m 107 (by decide +kernel) rfl
theorem k_53 : Cond.methodLink RX3 3 objectInit ∈ gw_all := gw_m 246 (by decide +kernel) rfl
theorem k_54 : Cond.fieldLink RX3 9 "TypeBench$Printer" "lengths" "[I" ∈ gw_all := gw_m 248 (by decide +kernel) rfl
theorem k_55 : Cond.fieldLink RX3 15 "TypeBench$Printer" "path" "[I" ∈ gw_all := gw_m 249 (by decide +kernel) rfl
theorem k_56 : Cond.fieldLink RX3 18 "TypeBench$Printer" "depth" "I" ∈ gw_all := gw_m 250 (by decide +kernel) rfl
theorem k_57 : Cond.fieldLink RX3 22 "TypeBench$Printer" "root" "I" ∈ gw_all := gw_m 251 (by decide +kernel) rfl
theorem k_58 : Cond.fieldLink RX3 25 "TypeBench$Printer" "names" "I" ∈ gw_all := gw_m 252 (by decide +kernel) rfl
theorem k_59 : Cond.fieldLink RX3 28 "TypeBench$Printer" "nodes" "LTypeBench$Nodes;" ∈ gw_all := gw_m 247 (by decide +kernel) rfl
theorem k_60 : Cond.methodLink RX4 3 objectInit ∈ gw_all := gw_m 128 (by decide +kernel) rfl
theorem k_61 : Cond.fieldLink RX4 9 "TypeBench$Reader" "termBinders" "[I" ∈ gw_all := gw_m 131 (by decide +kernel) rfl
theorem k_62 : Cond.fieldLink RX4 15 "TypeBench$Reader" "typeBinders" "[I" ∈ gw_all := gw_m 132 (by decide +kernel) rfl
theorem k_63 : Cond.fieldLink RX4 18 "TypeBench$Reader" "openTypeBinders" "I" ∈ gw_all := gw_m 133 (by decide +kernel) rfl
theorem k_64 : Cond.fieldLink RX4 22 "TypeBench$Reader" "length" "I" ∈ gw_all := gw_m 134 (by decide +kernel) rfl
theorem k_65 : Cond.fieldLink RX4 25 "TypeBench$Reader" "next" "I" ∈ gw_all := gw_m 135 (by decide +kernel) rfl
theorem k_66 : Cond.fieldLink RX4 28 "TypeBench$Reader" "brackets" "I" ∈ gw_all := gw_m 136 (by decide +kernel) rfl
theorem k_67 : Cond.fieldLink RX4 31 "TypeBench$Reader" "wrong" "I" ∈ gw_all := gw_m 137 (by decide +kernel) rfl
theorem k_68 : Cond.fieldLink RX4 34 "TypeBench$Reader" "nodes" "LTypeBench$Nodes;" ∈ gw_all := gw_m 129 (by decide +kernel) rfl
theorem k_69 : Cond.fieldLink RX4 38 "TypeBench$Reader" "text" "[I" ∈ gw_all := gw_m 130 (by decide +kernel) rfl
theorem k_70 : Cond.methodLink RX6 1 objectInit ∈ gw_all := gw_m 93 (by decide +kernel) rfl
theorem k_71 : Cond.fieldLink RX6 9 "TypeBench" "tape" "[I" ∈ gw_all := gw_m 266 (by decide +kernel) rfl
theorem k_72 : Cond.fieldLink RX6 13 "TypeBench" "fed" "I" ∈ gw_all := gw_m 267 (by decide +kernel) rfl
theorem k_73 : Cond.fieldLink RX6 17 "TypeBench" "wrongAt" "I" ∈ gw_all := gw_m 268 (by decide +kernel) rfl
theorem k_74 : Cond.classLink RX6 20 RX2 ∈ gw_all := gw_m 96 (by decide +kernel) rfl
theorem k_75 : Cond.instantiable RX2 6 ∈ gw_all := gw_m 97 (by decide +kernel) rfl
theorem k_76 : Cond.initialized RX2 ∈ gw_all := gw_m 73 (by decide +kernel) rfl
theorem k_77 : Cond.instanceMethod yX2_init ∈ gw_all := gw_m 99 (by decide +kernel) rfl
theorem k_78 : Cond.fieldLink RX6 23 "TypeBench" "nodes" "LTypeBench$Nodes;" ∈ gw_all := gw_m 269 (by decide +kernel) rfl
theorem k_79 : Cond.classLink RX6 27 RX4 ∈ gw_all := gw_m 123 (by decide +kernel) rfl
theorem k_80 : Cond.instantiable RX4 9 ∈ gw_all := gw_m 124 (by decide +kernel) rfl
theorem k_81 : Cond.initialized RX4 ∈ gw_all := gw_m 74 (by decide +kernel) rfl
theorem k_82 : Cond.methodLink RX6 29 yX4_init ∈ gw_all := gw_m 125 (by decide +kernel) rfl
theorem k_83 : Cond.instanceMethod yX4_init ∈ gw_all := gw_m 126 (by decide +kernel) rfl
theorem k_84 : Cond.fieldLink RX6 32 "TypeBench" "reader" "LTypeBench$Reader;" ∈ gw_all := gw_m 270 (by decide +kernel) rfl
theorem k_85 : Cond.classLink RX6 36 RX1 ∈ gw_all := gw_m 157 (by decide +kernel) rfl
theorem k_86 : Cond.instantiable RX1 11 ∈ gw_all := gw_m 158 (by decide +kernel) rfl
theorem k_87 : Cond.initialized RX1 ∈ gw_all := gw_m 75 (by decide +kernel) rfl
theorem k_88 : Cond.methodLink RX6 38 yX1_init ∈ gw_all := gw_m 159 (by decide +kernel) rfl
theorem k_89 : Cond.instanceMethod yX1_init ∈ gw_all := gw_m 160 (by decide +kernel) rfl
theorem k_90 : Cond.fieldLink RX6 41 "TypeBench" "judge" "LTypeBench$Judge;" ∈ gw_all := gw_m 271 (by decide +kernel) rfl
theorem k_91 : Cond.classLink RX6 45 RX3 ∈ gw_all := gw_m 241 (by decide +kernel) rfl
theorem k_92 : Cond.instantiable RX3 6 ∈ gw_all := gw_m 242 (by decide +kernel) rfl
theorem k_93 : Cond.initialized RX3 ∈ gw_all := gw_m 78 (by decide +kernel) rfl
theorem k_94 : Cond.methodLink RX6 47 yX3_init ∈ gw_all := gw_m 243 (by decide +kernel) rfl
theorem k_95 : Cond.instanceMethod yX3_init ∈ gw_all := gw_m 244 (by decide +kernel) rfl
theorem k_96 : Cond.fieldLink RX6 48 "TypeBench" "printer" "LTypeBench$Printer;" ∈ gw_all := gw_m 272 (by decide +kernel) rfl
theorem k_97 : Cond.methodLink RX7 1 objectInit ∈ gw_all := gw_m 796 (by decide +kernel) rfl
theorem k_98 : Cond.fieldLink RX7 7 "TypeBenchModel" "tape" "[I" ∈ gw_all := gw_m 799 (by decide +kernel) rfl
theorem k_99 : Cond.fieldLink RX7 13 "TypeBenchModel" "place" "I" ∈ gw_all := gw_m 804 (by decide +kernel) rfl
theorem k_100 : Cond.constant RX7 17 (200000) ∈ gw_all := gw_m 797 (by decide +kernel) rfl
theorem k_101 : Cond.fieldLink RX7 18 "TypeBenchModel" "typeKind" "[I" ∈ gw_all := gw_m 807 (by decide +kernel) rfl
theorem k_102 : Cond.fieldLink RX7 21 "TypeBenchModel" "typeFirst" "[I" ∈ gw_all := gw_m 808 (by decide +kernel) rfl
theorem k_103 : Cond.fieldLink RX7 24 "TypeBenchModel" "typeSecond" "[I" ∈ gw_all := gw_m 809 (by decide +kernel) rfl
theorem k_104 : Cond.fieldLink RX7 27 "TypeBenchModel" "termKind" "[I" ∈ gw_all := gw_m 811 (by decide +kernel) rfl
theorem k_105 : Cond.fieldLink RX7 30 "TypeBenchModel" "termFirst" "[I" ∈ gw_all := gw_m 812 (by decide +kernel) rfl
theorem k_106 : Cond.fieldLink RX7 33 "TypeBenchModel" "termSecond" "[I" ∈ gw_all := gw_m 813 (by decide +kernel) rfl
theorem k_107 : Cond.fieldLink RX7 36 "TypeBenchModel" "frame" "[I" ∈ gw_all := gw_m 815 (by decide +kernel) rfl
theorem k_108 : Cond.fieldLink RX7 39 "TypeBenchModel" "frameOf" "[I" ∈ gw_all := gw_m 816 (by decide +kernel) rfl
theorem k_109 : Cond.fieldLink RX7 42 "TypeBenchModel" "frameLetter" "[I" ∈ gw_all := gw_m 817 (by decide +kernel) rfl
theorem k_110 : Cond.fieldLink RX7 45 "TypeBenchModel" "entry" "[I" ∈ gw_all := gw_m 820 (by decide +kernel) rfl
theorem k_111 : Cond.fieldLink RX7 48 "TypeBenchModel" "entryOf" "[I" ∈ gw_all := gw_m 821 (by decide +kernel) rfl
theorem k_112 : Cond.fieldLink RX7 51 "TypeBenchModel" "entryType" "[I" ∈ gw_all := gw_m 822 (by decide +kernel) rfl
theorem k_113 : Cond.fieldLink RX7 54 "TypeBenchModel" "solution" "[I" ∈ gw_all := gw_m 825 (by decide +kernel) rfl
theorem k_114 : Cond.fieldLink RX7 57 "TypeBenchModel" "act" "[I" ∈ gw_all := gw_m 827 (by decide +kernel) rfl
theorem k_115 : Cond.fieldLink RX7 60 "TypeBenchModel" "first" "[I" ∈ gw_all := gw_m 828 (by decide +kernel) rfl
theorem k_116 : Cond.fieldLink RX7 63 "TypeBenchModel" "second" "[I" ∈ gw_all := gw_m 829 (by decide +kernel) rfl
theorem k_117 : Cond.fieldLink RX7 66 "TypeBenchModel" "walk" "[I" ∈ gw_all := gw_m 832 (by decide +kernel) rfl
theorem k_118 : Cond.fieldLink RX7 69 "TypeBenchModel" "copy" "[I" ∈ gw_all := gw_m 833 (by decide +kernel) rfl
theorem k_119 : Cond.fieldLink RX7 72 "TypeBenchModel" "out" "[I" ∈ gw_all := gw_m 834 (by decide +kernel) rfl
theorem k_120 : Cond.fieldLink RX7 75 "TypeBenchModel" "named" "[I" ∈ gw_all := gw_m 836 (by decide +kernel) rfl
theorem k_121 : Cond.code yJ7_fill_53178 cJ7_fill_53178 4 none ∈ gw_all := gw_m 458 (by decide +kernel) rfl
theorem k_122 : Cond.code yX4_start cX4_start 2 none ∈ gw_all := gw_m 452 (by decide +kernel) rfl
theorem k_123 : Cond.code yX2_make cX2_make 5 (some .int) ∈ gw_all := gw_m 436 (by decide +kernel) rfl
theorem k_124 : Cond.code yX2_clear cX2_clear 1 none ∈ gw_all := gw_m 432 (by decide +kernel) rfl
theorem k_125 : Cond.code yX0_clear cX0_clear 1 none ∈ gw_all := gw_m 444 (by decide +kernel) rfl
theorem k_126 : Cond.code yX1_clear cX1_clear 1 none ∈ gw_all := gw_m 440 (by decide +kernel) rfl
theorem k_127 : Cond.code yX3_clear cX3_clear 1 none ∈ gw_all := gw_m 448 (by decide +kernel) rfl
theorem k_128 : Cond.code yX6_startText cX6_startText 1 none ∈ gw_all := gw_m 428 (by decide +kernel) rfl
theorem k_129 : Cond.code yX4_peek cX4_peek 1 (some .int) ∈ gw_all := gw_m 474 (by decide +kernel) rfl
theorem k_130 : Cond.code yX4_refuse cX4_refuse 1 (some .int) ∈ gw_all := gw_m 478 (by decide +kernel) rfl
theorem k_131 : Cond.code yX4_isLetter cX4_isLetter 1 (some .boolean) ∈ gw_all := gw_m 490 (by decide +kernel) rfl
theorem k_132 : Cond.code yX4_termAtom cX4_termAtom 3 (some .int) ∈ gw_all := gw_m 470 (by decide +kernel) rfl
theorem k_133 : Cond.code yX4_term cX4_term 5 (some .int) ∈ gw_all := gw_m 466 (by decide +kernel) rfl
theorem k_134 : Cond.code yX4_wholeTerm cX4_wholeTerm 2 (some .int) ∈ gw_all := gw_m 462 (by decide +kernel) rfl
theorem k_135 : Cond.code yX4_wrongAt cX4_wrongAt 1 (some .int) ∈ gw_all := gw_m 545 (by decide +kernel) rfl
theorem k_136 : Cond.code yX4_typeAtom cX4_typeAtom 3 (some .int) ∈ gw_all := gw_m 506 (by decide +kernel) rfl
theorem k_137 : Cond.code yX4_type cX4_type 3 (some .int) ∈ gw_all := gw_m 502 (by decide +kernel) rfl
theorem k_138 : Cond.code yX4_typeBeforeSign cX4_typeBeforeSign 2 (some .int) ∈ gw_all := gw_m 748 (by decide +kernel) rfl
theorem k_139 : Cond.code yX4_typeBehindSign cX4_typeBehindSign 2 (some .int) ∈ gw_all := gw_m 752 (by decide +kernel) rfl
theorem k_140 : Cond.methodLink RX4 41 Lib.Math.min.name ∈ gw_all := gw_m 453 (by decide +kernel) rfl
theorem k_141 : Cond.static Lib.Math.min.name ∈ gw_all := gw_m 454 (by decide +kernel) rfl
theorem k_142 : Cond.initialized "java/lang/Math" ∈ gw_all := gw_m 85 (by decide +kernel) rfl
theorem k_143 : Cond.code Lib.Math.min.name Lib.Math.min.code 2 (some .int) ∈ gw_all := gw_m 455 (by decide +kernel) rfl
theorem k_144 : Cond.methodLink RX4 47 yJ7_fill_53178 ∈ gw_all := gw_m 456 (by decide +kernel) rfl
theorem k_145 : Cond.static yJ7_fill_53178 ∈ gw_all := gw_m 457 (by decide +kernel) rfl
theorem k_146 : Cond.initialized RJ7 ∈ gw_all := gw_m 86 (by decide +kernel) rfl
theorem k_147 : Cond.methodLink RX2 32 yX2_make ∈ gw_all := gw_m 433 (by decide +kernel) rfl
theorem k_148 : Cond.instanceMethod yX2_make ∈ gw_all := gw_m 434 (by decide +kernel) rfl
theorem k_149 : Cond.selects RX2 yX2_make yX2_make ∈ gw_all := gw_m 435 (by decide +kernel) rfl
theorem k_150 : Cond.methodLink RX1 60 yX0_clear ∈ gw_all := gw_m 441 (by decide +kernel) rfl
theorem k_151 : Cond.instanceMethod yX0_clear ∈ gw_all := gw_m 442 (by decide +kernel) rfl
theorem k_152 : Cond.selects RX0 yX0_clear yX0_clear ∈ gw_all := gw_m 443 (by decide +kernel) rfl
theorem k_153 : Cond.methodLink RX6 121 yX2_clear ∈ gw_all := gw_m 429 (by decide +kernel) rfl
theorem k_154 : Cond.instanceMethod yX2_clear ∈ gw_all := gw_m 430 (by decide +kernel) rfl
theorem k_155 : Cond.selects RX2 yX2_clear yX2_clear ∈ gw_all := gw_m 431 (by decide +kernel) rfl
theorem k_156 : Cond.methodLink RX6 124 yX1_clear ∈ gw_all := gw_m 437 (by decide +kernel) rfl
theorem k_157 : Cond.instanceMethod yX1_clear ∈ gw_all := gw_m 438 (by decide +kernel) rfl
theorem k_158 : Cond.selects RX1 yX1_clear yX1_clear ∈ gw_all := gw_m 439 (by decide +kernel) rfl
theorem k_159 : Cond.methodLink RX6 125 yX3_clear ∈ gw_all := gw_m 445 (by decide +kernel) rfl
theorem k_160 : Cond.instanceMethod yX3_clear ∈ gw_all := gw_m 446 (by decide +kernel) rfl
theorem k_161 : Cond.selects RX3 yX3_clear yX3_clear ∈ gw_all := gw_m 447 (by decide +kernel) rfl
theorem k_162 : Cond.methodLink RX6 126 yX4_start ∈ gw_all := gw_m 449 (by decide +kernel) rfl
theorem k_163 : Cond.instanceMethod yX4_start ∈ gw_all := gw_m 450 (by decide +kernel) rfl
theorem k_164 : Cond.selects RX4 yX4_start yX4_start ∈ gw_all := gw_m 451 (by decide +kernel) rfl
theorem k_165 : Cond.methodLink RX4 57 yX4_peek ∈ gw_all := gw_m 471 (by decide +kernel) rfl
theorem k_166 : Cond.instanceMethod yX4_peek ∈ gw_all := gw_m 473 (by decide +kernel) rfl
theorem k_167 : Cond.selects RX4 yX4_peek yX4_peek ∈ gw_all := gw_m 5 (by decide +kernel) rfl
theorem k_168 : Cond.methodLink RX4 71 yX4_isLetter ∈ gw_all := gw_m 488 (by decide +kernel) rfl
theorem k_169 : Cond.static yX4_isLetter ∈ gw_all := gw_m 489 (by decide +kernel) rfl
theorem k_170 : Cond.methodLink RX4 61 yX4_refuse ∈ gw_all := gw_m 475 (by decide +kernel) rfl
theorem k_171 : Cond.instanceMethod yX4_refuse ∈ gw_all := gw_m 477 (by decide +kernel) rfl
theorem k_172 : Cond.selects RX4 yX4_refuse yX4_refuse ∈ gw_all := gw_m 6 (by decide +kernel) rfl
theorem k_173 : Cond.methodLink RX4 74 yX4_termAtom ∈ gw_all := gw_m 467 (by decide +kernel) rfl
theorem k_174 : Cond.instanceMethod yX4_termAtom ∈ gw_all := gw_m 469 (by decide +kernel) rfl
theorem k_175 : Cond.selects RX4 yX4_termAtom yX4_termAtom ∈ gw_all := gw_m 4 (by decide +kernel) rfl
theorem k_176 : Cond.methodLink RX4 53 yX4_term ∈ gw_all := gw_m 463 (by decide +kernel) rfl
theorem k_177 : Cond.instanceMethod yX4_term ∈ gw_all := gw_m 465 (by decide +kernel) rfl
theorem k_178 : Cond.selects RX4 yX4_term yX4_term ∈ gw_all := gw_m 3 (by decide +kernel) rfl
theorem k_179 : Cond.methodLink RX4 98 yX4_typeAtom ∈ gw_all := gw_m 503 (by decide +kernel) rfl
theorem k_180 : Cond.instanceMethod yX4_typeAtom ∈ gw_all := gw_m 505 (by decide +kernel) rfl
theorem k_181 : Cond.selects RX4 yX4_typeAtom yX4_typeAtom ∈ gw_all := gw_m 12 (by decide +kernel) rfl
theorem k_182 : Cond.methodLink RX4 64 yX4_type ∈ gw_all := gw_m 499 (by decide +kernel) rfl
theorem k_183 : Cond.instanceMethod yX4_type ∈ gw_all := gw_m 501 (by decide +kernel) rfl
theorem k_184 : Cond.selects RX4 yX4_type yX4_type ∈ gw_all := gw_m 11 (by decide +kernel) rfl
theorem k_185 : Cond.code yX6_place cX6_place 1 (some .int) ∈ gw_all := gw_m 291 (by decide +kernel) rfl
theorem k_186 : Cond.code yX2_has cX2_has 2 (some .boolean) ∈ gw_all := gw_m 307 (by decide +kernel) rfl
theorem k_187 : Cond.code yX3_lengthOf cX3_lengthOf 2 (some .int) ∈ gw_all := gw_m 303 (by decide +kernel) rfl
theorem k_188 : Cond.code yX3_length cX3_length 1 (some .int) ∈ gw_all := gw_m 299 (by decide +kernel) rfl
theorem k_189 : Cond.code yX6_size cX6_size 1 (some .int) ∈ gw_all := gw_m 295 (by decide +kernel) rfl
theorem k_190 : Cond.code yX1_madeUnknowns cX1_madeUnknowns 1 (some .int) ∈ gw_all := gw_m 315 (by decide +kernel) rfl
theorem k_191 : Cond.code yX6_unknowns cX6_unknowns 1 (some .int) ∈ gw_all := gw_m 311 (by decide +kernel) rfl
theorem k_192 : Cond.code yX1_solvedUnknowns cX1_solvedUnknowns 1 (some .int) ∈ gw_all := gw_m 323 (by decide +kernel) rfl
theorem k_193 : Cond.code yX6_solved cX6_solved 1 (some .int) ∈ gw_all := gw_m 319 (by decide +kernel) rfl
theorem k_194 : Cond.methodLink RX3 63 yX2_has ∈ gw_all := gw_m 304 (by decide +kernel) rfl
theorem k_195 : Cond.instanceMethod yX2_has ∈ gw_all := gw_m 305 (by decide +kernel) rfl
theorem k_196 : Cond.selects RX2 yX2_has yX2_has ∈ gw_all := gw_m 306 (by decide +kernel) rfl
theorem k_197 : Cond.methodLink RX3 51 yX3_lengthOf ∈ gw_all := gw_m 300 (by decide +kernel) rfl
theorem k_198 : Cond.instanceMethod yX3_lengthOf ∈ gw_all := gw_m 302 (by decide +kernel) rfl
theorem k_199 : Cond.selects RX3 yX3_lengthOf yX3_lengthOf ∈ gw_all := gw_m 0 (by decide +kernel) rfl
theorem k_200 : Cond.methodLink RX6 103 yX3_length ∈ gw_all := gw_m 296 (by decide +kernel) rfl
theorem k_201 : Cond.instanceMethod yX3_length ∈ gw_all := gw_m 297 (by decide +kernel) rfl
theorem k_202 : Cond.selects RX3 yX3_length yX3_length ∈ gw_all := gw_m 298 (by decide +kernel) rfl
theorem k_203 : Cond.methodLink RX6 115 yX1_madeUnknowns ∈ gw_all := gw_m 312 (by decide +kernel) rfl
theorem k_204 : Cond.instanceMethod yX1_madeUnknowns ∈ gw_all := gw_m 313 (by decide +kernel) rfl
theorem k_205 : Cond.selects RX1 yX1_madeUnknowns yX1_madeUnknowns ∈ gw_all := gw_m 314 (by decide +kernel) rfl
theorem k_206 : Cond.methodLink RX6 118 yX1_solvedUnknowns ∈ gw_all := gw_m 320 (by decide +kernel) rfl
theorem k_207 : Cond.instanceMethod yX1_solvedUnknowns ∈ gw_all := gw_m 321 (by decide +kernel) rfl
theorem k_208 : Cond.selects RX1 yX1_solvedUnknowns yX1_solvedUnknowns ∈ gw_all := gw_m 322 (by decide +kernel) rfl
theorem k_209 : Cond.code yX7_thrown cX7_thrown 1 (some .int) ∈ gw_all := gw_m 919 (by decide +kernel) rfl
theorem k_210 : Cond.code yX7_throwing cX7_throwing 3 (some .boolean) ∈ gw_all := gw_m 927 (by decide +kernel) rfl
theorem k_211 : Cond.code yX7_see cX7_see 1 (some .int) ∈ gw_all := gw_m 947 (by decide +kernel) rfl
theorem k_212 : Cond.code yX7_fail cX7_fail 1 none ∈ gw_all := gw_m 962 (by decide +kernel) rfl
theorem k_213 : Cond.code yX7_isLetter cX7_isLetter 1 (some .boolean) ∈ gw_all := gw_m 954 (by decide +kernel) rfl
theorem k_214 : Cond.code yX7_open cX7_open 4 none ∈ gw_all := gw_m 943 (by decide +kernel) rfl
theorem k_215 : Cond.code yX7_begin cX7_begin 1 none ∈ gw_all := gw_m 935 (by decide +kernel) rfl
theorem k_216 : Cond.code yX7_readTerm cX7_readTerm 9 (some .int) ∈ gw_all := gw_m 939 (by decide +kernel) rfl
theorem k_217 : Cond.code yX7_readType cX7_readType 5 (some .int) ∈ gw_all := gw_m 974 (by decide +kernel) rfl
theorem k_218 : Cond.code yX7_infer cX7_infer 2 (some .boolean) ∈ gw_all := gw_m 931 (by decide +kernel) rfl
theorem k_219 : Cond.code yX7_below cX7_below 3 (some .boolean) ∈ gw_all := gw_m 1058 (by decide +kernel) rfl
theorem k_220 : Cond.code yX7_place cX7_place 1 (some .int) ∈ gw_all := gw_m 1062 (by decide +kernel) rfl
theorem k_221 : Cond.code yX7_size cX7_size 1 (some .int) ∈ gw_all := gw_m 1066 (by decide +kernel) rfl
theorem k_222 : Cond.code yX7_out cX7_out 2 (some .int) ∈ gw_all := gw_m 1070 (by decide +kernel) rfl
theorem k_223 : Cond.code yX7_unknowns cX7_unknowns 1 (some .int) ∈ gw_all := gw_m 1074 (by decide +kernel) rfl
theorem k_224 : Cond.code yX7_solved cX7_solved 1 (some .int) ∈ gw_all := gw_m 1078 (by decide +kernel) rfl
theorem k_225 : Cond.code yX7_feed cX7_feed 6 (some .int) ∈ gw_all := gw_m 923 (by decide +kernel) rfl
theorem k_226 : Cond.fieldLink RX7 78 "TypeBenchModel" "thrown" "I" ∈ gw_all := gw_m 798 (by decide +kernel) rfl
theorem k_227 : Cond.fieldLink RX7 94 "TypeBenchModel" "at" "I" ∈ gw_all := gw_m 802 (by decide +kernel) rfl
theorem k_228 : Cond.fieldLink RX7 97 "TypeBenchModel" "length" "I" ∈ gw_all := gw_m 801 (by decide +kernel) rfl
theorem k_229 : Cond.fieldLink RX7 100 "TypeBenchModel" "wrong" "Z" ∈ gw_all := gw_m 803 (by decide +kernel) rfl
theorem k_230 : Cond.fieldLink RX7 104 "TypeBenchModel" "frames" "I" ∈ gw_all := gw_m 818 (by decide +kernel) rfl
theorem k_231 : Cond.fieldLink RX7 81 "TypeBenchModel" "taped" "I" ∈ gw_all := gw_m 800 (by decide +kernel) rfl
theorem k_232 : Cond.fieldLink RX7 125 "TypeBenchModel" "depth" "I" ∈ gw_all := gw_m 805 (by decide +kernel) rfl
theorem k_233 : Cond.fieldLink RX7 88 "TypeBenchModel" "types" "I" ∈ gw_all := gw_m 806 (by decide +kernel) rfl
theorem k_234 : Cond.fieldLink RX7 91 "TypeBenchModel" "terms" "I" ∈ gw_all := gw_m 810 (by decide +kernel) rfl
theorem k_235 : Cond.fieldLink RX7 118 "TypeBenchModel" "numbers" "I" ∈ gw_all := gw_m 814 (by decide +kernel) rfl
theorem k_236 : Cond.fieldLink RX7 149 "TypeBenchModel" "entries" "I" ∈ gw_all := gw_m 819 (by decide +kernel) rfl
theorem k_237 : Cond.fieldLink RX7 152 "TypeBenchModel" "unknowns" "I" ∈ gw_all := gw_m 823 (by decide +kernel) rfl
theorem k_238 : Cond.fieldLink RX7 155 "TypeBenchModel" "solved" "I" ∈ gw_all := gw_m 824 (by decide +kernel) rfl
theorem k_239 : Cond.fieldLink RX7 158 "TypeBenchModel" "todo" "I" ∈ gw_all := gw_m 826 (by decide +kernel) rfl
theorem k_240 : Cond.fieldLink RX7 161 "TypeBenchModel" "failed" "Z" ∈ gw_all := gw_m 831 (by decide +kernel) rfl
theorem k_241 : Cond.fieldLink RX7 164 "TypeBenchModel" "outSize" "I" ∈ gw_all := gw_m 835 (by decide +kernel) rfl
theorem k_242 : Cond.methodLink RX7 121 yX7_open ∈ gw_all := gw_m 940 (by decide +kernel) rfl
theorem k_243 : Cond.instanceMethod yX7_open ∈ gw_all := gw_m 942 (by decide +kernel) rfl
theorem k_244 : Cond.selects RX7 yX7_open yX7_open ∈ gw_all := gw_m 43 (by decide +kernel) rfl
theorem k_245 : Cond.initialized RX7 ∈ gw_all := gw_m 79 (by decide +kernel) rfl
theorem k_246 : Cond.methodLink RX7 107 yX7_see ∈ gw_all := gw_m 944 (by decide +kernel) rfl
theorem k_247 : Cond.instanceMethod yX7_see ∈ gw_all := gw_m 946 (by decide +kernel) rfl
theorem k_248 : Cond.selects RX7 yX7_see yX7_see ∈ gw_all := gw_m 44 (by decide +kernel) rfl
theorem k_249 : Cond.methodLink RX7 111 yX7_isLetter ∈ gw_all := gw_m 952 (by decide +kernel) rfl
theorem k_250 : Cond.static yX7_isLetter ∈ gw_all := gw_m 953 (by decide +kernel) rfl
theorem k_251 : Cond.methodLink RX7 115 yX7_fail ∈ gw_all := gw_m 959 (by decide +kernel) rfl
theorem k_252 : Cond.instanceMethod yX7_fail ∈ gw_all := gw_m 961 (by decide +kernel) rfl
theorem k_253 : Cond.selects RX7 yX7_fail yX7_fail ∈ gw_all := gw_m 47 (by decide +kernel) rfl
theorem k_254 : Cond.methodLink RX7 226 yX7_begin ∈ gw_all := gw_m 932 (by decide +kernel) rfl
theorem k_255 : Cond.instanceMethod yX7_begin ∈ gw_all := gw_m 934 (by decide +kernel) rfl
theorem k_256 : Cond.selects RX7 yX7_begin yX7_begin ∈ gw_all := gw_m 41 (by decide +kernel) rfl
theorem k_257 : Cond.methodLink RX7 229 yX7_readTerm ∈ gw_all := gw_m 936 (by decide +kernel) rfl
theorem k_258 : Cond.instanceMethod yX7_readTerm ∈ gw_all := gw_m 938 (by decide +kernel) rfl
theorem k_259 : Cond.selects RX7 yX7_readTerm yX7_readTerm ∈ gw_all := gw_m 42 (by decide +kernel) rfl
theorem k_260 : Cond.methodLink RX7 84 yX7_throwing ∈ gw_all := gw_m 924 (by decide +kernel) rfl
theorem k_261 : Cond.instanceMethod yX7_throwing ∈ gw_all := gw_m 926 (by decide +kernel) rfl
theorem k_262 : Cond.selects RX7 yX7_throwing yX7_throwing ∈ gw_all := gw_m 40 (by decide +kernel) rfl
theorem k_263 : Cond.methodLink RX7 146 yX7_readType ∈ gw_all := gw_m 971 (by decide +kernel) rfl
theorem k_264 : Cond.instanceMethod yX7_readType ∈ gw_all := gw_m 973 (by decide +kernel) rfl
theorem k_265 : Cond.selects RX7 yX7_readType yX7_readType ∈ gw_all := gw_m 50 (by decide +kernel) rfl
theorem k_266 : Cond.code yX6_feed cX6_feed 5 (some .int) ∈ gw_all := gw_m 332 (by decide +kernel) rfl
theorem k_267 : Cond.code yX6_infer cX6_infer 3 (some .boolean) ∈ gw_all := gw_m 424 (by decide +kernel) rfl
theorem k_268 : Cond.code yX6_below cX6_below 4 (some .boolean) ∈ gw_all := gw_m 744 (by decide +kernel) rfl
theorem k_269 : Cond.code yX6_out cX6_out 2 (some .int) ∈ gw_all := gw_m 765 (by decide +kernel) rfl
theorem k_270 : Cond.codeWith yL_feed cL_feed 6 (some .int) [(0, 11, 14, 13), (0, 11, 18, 15)] ∈ gw_all := gw_m 326 (by decide +kernel) rfl
theorem k_271 : Cond.codeWith yL_infer cL_infer 3 (some .int) [(0, 15, 18, 13)] ∈ gw_all := gw_m 420 (by decide +kernel) rfl
theorem k_272 : Cond.codeWith yL_below cL_below 3 (some .int) [(0, 15, 18, 13)] ∈ gw_all := gw_m 740 (by decide +kernel) rfl
theorem k_273 : Cond.codeWith yL_out cL_out 4 (some .int) [(0, 9, 12, 28)] ∈ gw_all := gw_m 760 (by decide +kernel) rfl
theorem k_274 : Cond.classLink RX6 52 "java/lang/IllegalArgumentException" ∈ gw_all := gw_m 333 (by decide +kernel) rfl
theorem k_275 : Cond.initialized "java/lang/IllegalArgumentException" ∈ gw_all := gw_m 83 (by decide +kernel) rfl
theorem k_276 : Cond.constantLong RX6 64 (255) ∈ gw_all := gw_m 417 (by decide +kernel) rfl
theorem k_277 : Cond.methodLink RX6 66 yX6_startText ∈ gw_all := gw_m 425 (by decide +kernel) rfl
theorem k_278 : Cond.instanceMethod yX6_startText ∈ gw_all := gw_m 427 (by decide +kernel) rfl
theorem k_279 : Cond.selects RX6 yX6_startText yX6_startText ∈ gw_all := gw_m 2 (by decide +kernel) rfl
theorem k_280 : Cond.initialized RX6 ∈ gw_all := gw_m 72 (by decide +kernel) rfl
theorem k_281 : Cond.methodLink RX6 69 yX4_wholeTerm ∈ gw_all := gw_m 459 (by decide +kernel) rfl
theorem k_282 : Cond.instanceMethod yX4_wholeTerm ∈ gw_all := gw_m 460 (by decide +kernel) rfl
theorem k_283 : Cond.selects RX4 yX4_wholeTerm yX4_wholeTerm ∈ gw_all := gw_m 461 (by decide +kernel) rfl
theorem k_284 : Cond.methodLink RX6 73 yX4_wrongAt ∈ gw_all := gw_m 542 (by decide +kernel) rfl
theorem k_285 : Cond.instanceMethod yX4_wrongAt ∈ gw_all := gw_m 543 (by decide +kernel) rfl
theorem k_286 : Cond.selects RX4 yX4_wrongAt yX4_wrongAt ∈ gw_all := gw_m 544 (by decide +kernel) rfl
theorem k_287 : Cond.methodLink RX6 91 yX4_typeBeforeSign ∈ gw_all := gw_m 745 (by decide +kernel) rfl
theorem k_288 : Cond.instanceMethod yX4_typeBeforeSign ∈ gw_all := gw_m 746 (by decide +kernel) rfl
theorem k_289 : Cond.selects RX4 yX4_typeBeforeSign yX4_typeBeforeSign ∈ gw_all := gw_m 747 (by decide +kernel) rfl
theorem k_290 : Cond.methodLink RX6 94 yX4_typeBehindSign ∈ gw_all := gw_m 749 (by decide +kernel) rfl
theorem k_291 : Cond.instanceMethod yX4_typeBehindSign ∈ gw_all := gw_m 750 (by decide +kernel) rfl
theorem k_292 : Cond.selects RX4 yX4_typeBehindSign yX4_typeBehindSign ∈ gw_all := gw_m 751 (by decide +kernel) rfl
theorem k_293 : Cond.classLink RX6 106 "java/lang/IndexOutOfBoundsException" ∈ gw_all := gw_m 766 (by decide +kernel) rfl
theorem k_294 : Cond.initialized "java/lang/IndexOutOfBoundsException" ∈ gw_all := gw_m 87 (by decide +kernel) rfl
theorem k_295 : Cond.methodLink RL 7 yX6_feed ∈ gw_all := gw_m 329 (by decide +kernel) rfl
theorem k_296 : Cond.instanceMethod yX6_feed ∈ gw_all := gw_m 330 (by decide +kernel) rfl
theorem k_297 : Cond.selects RX6 yX6_feed yX6_feed ∈ gw_all := gw_m 331 (by decide +kernel) rfl
theorem k_298 : Cond.classLink RL 13 "java/lang/IllegalArgumentException" ∈ gw_all := gw_m 327 (by decide +kernel) rfl
theorem k_299 : Cond.methodLink RL 17 yX6_infer ∈ gw_all := gw_m 421 (by decide +kernel) rfl
theorem k_300 : Cond.instanceMethod yX6_infer ∈ gw_all := gw_m 422 (by decide +kernel) rfl
theorem k_301 : Cond.selects RX6 yX6_infer yX6_infer ∈ gw_all := gw_m 423 (by decide +kernel) rfl
theorem k_302 : Cond.methodLink RL 21 yX6_below ∈ gw_all := gw_m 741 (by decide +kernel) rfl
theorem k_303 : Cond.instanceMethod yX6_below ∈ gw_all := gw_m 742 (by decide +kernel) rfl
theorem k_304 : Cond.selects RX6 yX6_below yX6_below ∈ gw_all := gw_m 743 (by decide +kernel) rfl
theorem k_305 : Cond.methodLink RL 24 yX6_out ∈ gw_all := gw_m 762 (by decide +kernel) rfl
theorem k_306 : Cond.instanceMethod yX6_out ∈ gw_all := gw_m 763 (by decide +kernel) rfl
theorem k_307 : Cond.selects RX6 yX6_out yX6_out ∈ gw_all := gw_m 764 (by decide +kernel) rfl
theorem k_308 : Cond.classLink RL 28 "java/lang/IndexOutOfBoundsException" ∈ gw_all := gw_m 761 (by decide +kernel) rfl
theorem g_yX0_init : GoodIn gw_all (wd yX0_init cX0_init 2 none) := gw_1 k_0
theorem g_yX5_init : GoodIn gw_all (wd yX5_init cX5_init 3 none) := gw_1 k_1
theorem g_yX1_init : GoodIn gw_all (wd yX1_init cX1_init 2 none) := gw_1 k_2
theorem g_yX2_init : GoodIn gw_all (wd yX2_init cX2_init 1 none) := gw_1 k_3
theorem g_yX3_init : GoodIn gw_all (wd yX3_init cX3_init 2 none) := gw_1 k_4
theorem g_yX4_init : GoodIn gw_all (wd yX4_init cX4_init 3 none) := gw_1 k_5
theorem g_yX6_init : GoodIn gw_all (wd yX6_init cX6_init 1 none) := gw_1 k_6
theorem g_yX7_init : GoodIn gw_all (wd yX7_init cX7_init 1 none) := gw_1 k_7
theorem g_yJ7_fill_53178 : GoodIn gw_all (wd yJ7_fill_53178 cJ7_fill_53178 4 none) := gw_1 k_121
theorem g_yX4_start : GoodIn gw_all (wd yX4_start cX4_start 2 none) := gw_1 k_122
theorem g_yX2_make : GoodIn gw_all (wd yX2_make cX2_make 5 (some .int)) := gw_1 k_123
theorem g_yX2_clear : GoodIn gw_all (wd yX2_clear cX2_clear 1 none) := gw_1 k_124
theorem g_yX0_clear : GoodIn gw_all (wd yX0_clear cX0_clear 1 none) := gw_1 k_125
theorem g_yX1_clear : GoodIn gw_all (wd yX1_clear cX1_clear 1 none) := gw_1 k_126
theorem g_yX3_clear : GoodIn gw_all (wd yX3_clear cX3_clear 1 none) := gw_1 k_127
theorem g_yX6_startText : GoodIn gw_all (wd yX6_startText cX6_startText 1 none) := gw_1 k_128
theorem g_yX4_peek : GoodIn gw_all (wd yX4_peek cX4_peek 1 (some .int)) := gw_1 k_129
theorem g_yX4_refuse : GoodIn gw_all (wd yX4_refuse cX4_refuse 1 (some .int)) := gw_1 k_130
theorem g_yX4_isLetter : GoodIn gw_all (wd yX4_isLetter cX4_isLetter 1 (some .boolean)) := gw_1 k_131
theorem g_yX4_termAtom : GoodIn gw_all (wd yX4_termAtom cX4_termAtom 3 (some .int)) := gw_1 k_132
theorem g_yX4_term : GoodIn gw_all (wd yX4_term cX4_term 5 (some .int)) := gw_1 k_133
theorem g_yX4_wholeTerm : GoodIn gw_all (wd yX4_wholeTerm cX4_wholeTerm 2 (some .int)) := gw_1 k_134
theorem g_yX4_wrongAt : GoodIn gw_all (wd yX4_wrongAt cX4_wrongAt 1 (some .int)) := gw_1 k_135
theorem g_yX4_typeAtom : GoodIn gw_all (wd yX4_typeAtom cX4_typeAtom 3 (some .int)) := gw_1 k_136
theorem g_yX4_type : GoodIn gw_all (wd yX4_type cX4_type 3 (some .int)) := gw_1 k_137
theorem g_yX4_typeBeforeSign : GoodIn gw_all (wd yX4_typeBeforeSign cX4_typeBeforeSign 2 (some .int)) := gw_1 k_138
theorem g_yX4_typeBehindSign : GoodIn gw_all (wd yX4_typeBehindSign cX4_typeBehindSign 2 (some .int)) := gw_1 k_139
theorem g_yX6_place : GoodIn gw_all (wd yX6_place cX6_place 1 (some .int)) := gw_1 k_185
theorem g_yX2_has : GoodIn gw_all (wd yX2_has cX2_has 2 (some .boolean)) := gw_1 k_186
theorem g_yX3_lengthOf : GoodIn gw_all (wd yX3_lengthOf cX3_lengthOf 2 (some .int)) := gw_1 k_187
theorem g_yX3_length : GoodIn gw_all (wd yX3_length cX3_length 1 (some .int)) := gw_1 k_188
theorem g_yX6_size : GoodIn gw_all (wd yX6_size cX6_size 1 (some .int)) := gw_1 k_189
theorem g_yX1_madeUnknowns : GoodIn gw_all (wd yX1_madeUnknowns cX1_madeUnknowns 1 (some .int)) := gw_1 k_190
theorem g_yX6_unknowns : GoodIn gw_all (wd yX6_unknowns cX6_unknowns 1 (some .int)) := gw_1 k_191
theorem g_yX1_solvedUnknowns : GoodIn gw_all (wd yX1_solvedUnknowns cX1_solvedUnknowns 1 (some .int)) := gw_1 k_192
theorem g_yX6_solved : GoodIn gw_all (wd yX6_solved cX6_solved 1 (some .int)) := gw_1 k_193
theorem g_yX7_thrown : GoodIn gw_all (wd yX7_thrown cX7_thrown 1 (some .int)) := gw_1 k_209
theorem g_yX7_throwing : GoodIn gw_all (wd yX7_throwing cX7_throwing 3 (some .boolean)) := gw_1 k_210
theorem g_yX7_see : GoodIn gw_all (wd yX7_see cX7_see 1 (some .int)) := gw_1 k_211
theorem g_yX7_fail : GoodIn gw_all (wd yX7_fail cX7_fail 1 none) := gw_1 k_212
theorem g_yX7_isLetter : GoodIn gw_all (wd yX7_isLetter cX7_isLetter 1 (some .boolean)) := gw_1 k_213
theorem g_yX7_open : GoodIn gw_all (wd yX7_open cX7_open 4 none) := gw_1 k_214
theorem g_yX7_begin : GoodIn gw_all (wd yX7_begin cX7_begin 1 none) := gw_1 k_215
theorem g_yX7_readTerm : GoodIn gw_all (wd yX7_readTerm cX7_readTerm 9 (some .int)) := gw_1 k_216
theorem g_yX7_readType : GoodIn gw_all (wd yX7_readType cX7_readType 5 (some .int)) := gw_1 k_217
theorem g_yX7_infer : GoodIn gw_all (wd yX7_infer cX7_infer 2 (some .boolean)) := gw_1 k_218
theorem g_yX7_below : GoodIn gw_all (wd yX7_below cX7_below 3 (some .boolean)) := gw_1 k_219
theorem g_yX7_place : GoodIn gw_all (wd yX7_place cX7_place 1 (some .int)) := gw_1 k_220
theorem g_yX7_size : GoodIn gw_all (wd yX7_size cX7_size 1 (some .int)) := gw_1 k_221
theorem g_yX7_out : GoodIn gw_all (wd yX7_out cX7_out 2 (some .int)) := gw_1 k_222
theorem g_yX7_unknowns : GoodIn gw_all (wd yX7_unknowns cX7_unknowns 1 (some .int)) := gw_1 k_223
theorem g_yX7_solved : GoodIn gw_all (wd yX7_solved cX7_solved 1 (some .int)) := gw_1 k_224
theorem g_yX7_feed : GoodIn gw_all (wd yX7_feed cX7_feed 6 (some .int)) := gw_1 k_225
theorem g_yX6_feed : GoodIn gw_all (wd yX6_feed cX6_feed 5 (some .int)) := gw_1 k_266
theorem g_yX6_infer : GoodIn gw_all (wd yX6_infer cX6_infer 3 (some .boolean)) := gw_1 k_267
theorem g_yX6_below : GoodIn gw_all (wd yX6_below cX6_below 4 (some .boolean)) := gw_1 k_268
theorem g_yX6_out : GoodIn gw_all (wd yX6_out cX6_out 2 (some .int)) := gw_1 k_269
theorem g_yL_feed : GoodIn gw_all (wh yL_feed cL_feed 6 (some .int) [(0, 11, 14, 13), (0, 11, 18, 15)]) := gw_1 k_270
theorem g_yL_infer : GoodIn gw_all (wh yL_infer cL_infer 3 (some .int) [(0, 15, 18, 13)]) := gw_1 k_271
theorem g_yL_below : GoodIn gw_all (wh yL_below cL_below 3 (some .int) [(0, 15, 18, 13)]) := gw_1 k_272
theorem g_yL_out : GoodIn gw_all (wh yL_out cL_out 4 (some .int) [(0, 9, 12, 28)]) := gw_1 k_273
end
section
/-! what a contract asks of the world, in one word; and small rows -/
abbrev t3 (cI cZ cL : ClassId) : List (ClassId × FieldType) := [(cI, .int), (cZ, .boolean), (cL, .long)]
abbrev zI : Nat → Int32 := fun _ => 0
abbrev zL : Nat → Int64 := fun _ => 0
def hp (dC : Nat → ClassId) (dI : Nat → Nat → Nat) (cI cZ cL : ClassId) (sz : Nat) (ws : va_W) (U : State) : Prop :=
  U.heap.size = sz ∧ va_P (dC, dI) vwCl ws U.heap ∧ va_K (dC, dI) vwCl (t3 cI cZ cL) U ∧ va_D (fun _ => True) ws
theorem hp_bl {dC : Nat → ClassId} {dI : Nat → Nat → Nat} {cI cZ cL : ClassId} {sz : Nat} {ws : va_W} {av : List Value} : FrameBlind (va_Pc av (hp dC dI cI cZ cL sz ws)) := fun a U g mk q => by
  obtain ⟨q0, q1, qP, qK, qD⟩ := q
  exact ⟨q0, q1, qP, va_K.moved (u := U) (U := U.calling g mk a) (Vm.Alike.refl U.vm) qK, qD⟩
theorem hp_ok {dC : Nat → ClassId} {dI : Nat → Nat → Nat} {cI cZ cL : ClassId} {ws : va_W} {A : Nat → Prop} {av : List Value} {s U : State} {H : Heap} (hU : U.heap = H) (hW : s.WarmedH U.vm) (hP : va_P (dC, dI) vwCl ws H) (hK : va_K (dC, dI) vwCl (t3 cI cZ cL) s) (hD : va_D A ws) : va_Pc av (hp dC dI cI cZ cL H.size ws) av.toArray U :=
  ⟨rfl, by rw [hU], by rw [hU]; exact hP, va_K.moved hW.alike hK, hD.weaken (fun _ _ _ _ => trivial)⟩
def hpn (dC : Nat → ClassId) (dI : Nat → Nat → Nat) (cI cZ cL : ClassId) (sz : Nat) (ws : va_W) (U : State) : Prop :=
  U.heap.size = sz ∧ va_P (dC, dI) vwCl ws U.heap ∧ va_K (dC, dI) vwCl (t3 cI cZ cL) U ∧ va_D (fun _ => True) ws ∧ va_Nw (.methodLinkNest RX6 22 yX2_init "TypeBench") U
theorem hpn_bl {dC : Nat → ClassId} {dI : Nat → Nat → Nat} {cI cZ cL : ClassId} {sz : Nat} {ws : va_W} {av : List Value} : FrameBlind (va_Pc av (hpn dC dI cI cZ cL sz ws)) := fun a U g mk q => by
  obtain ⟨q0, q1, qP, qK, qD, qN⟩ := q
  exact ⟨q0, q1, qP, va_K.moved (u := U) (U := U.calling g mk a) (Vm.Alike.refl U.vm) qK, qD, va_Nw.same rfl rfl qN⟩
theorem hpn_ok {dC : Nat → ClassId} {dI : Nat → Nat → Nat} {cI cZ cL : ClassId} {ws : va_W} {A : Nat → Prop} {av : List Value} {s U : State} {H : Heap} (hU : U.heap = H) (hW : s.WarmedH U.vm) (hP : va_P (dC, dI) vwCl ws H) (hK : va_K (dC, dI) vwCl (t3 cI cZ cL) s) (hD : va_D A ws) (hN : va_Nw (.methodLinkNest RX6 22 yX2_init "TypeBench") s) : va_Pc av (hpn dC dI cI cZ cL H.size ws) av.toArray U :=
  ⟨rfl, by rw [hU], by rw [hU]; exact hP, va_K.moved hW.alike hK, hD.weaken (fun _ _ _ _ => trivial), va_Nw.warmM hW hN⟩
theorem ty_at {D : va_G} {cl : List vw_C} {cI cZ cL cA : ClassId} {s : State} {ty : FieldType} (h : va_K D cl (t3 cI cZ cL ++ [(cA, ty)]) s) : va_RA s cI .int ∧ va_RA s cZ .boolean ∧ va_RA s cL .long ∧ va_RA s cA ty :=
  ⟨(h.2 0 _ rfl).2, (h.2 1 _ rfl).2, (h.2 2 _ rfl).2, (h.2 3 _ rfl).2⟩
theorem ty_int {D : va_G} {cl : List vw_C} {cI cZ cL cA : ClassId} {s : State} (h : va_K D cl (t3 cI cZ cL ++ [(cA, .int)]) s) : cI = cA := by
  obtain ⟨h1, -, -, h4⟩ := ty_at h
  exact Option.some.inj (Eq.trans (Eq.symm h1) h4)
theorem ty_boolean {D : va_G} {cl : List vw_C} {cI cZ cL cA : ClassId} {s : State} (h : va_K D cl (t3 cI cZ cL ++ [(cA, .boolean)]) s) : cZ = cA := by
  obtain ⟨-, h1, -, h4⟩ := ty_at h
  exact Option.some.inj (Eq.trans (Eq.symm h1) h4)
theorem ty_long {D : va_G} {cl : List vw_C} {cI cZ cL cA : ClassId} {s : State} (h : va_K D cl (t3 cI cZ cL ++ [(cA, .long)]) s) : cL = cA := by
  obtain ⟨-, -, h1, h4⟩ := ty_at h
  exact Option.some.inj (Eq.trans (Eq.symm h1) h4)
theorem vp_lit {i : Int32} {n : Nat} (h1 : ¬ i < 0) (h2 : ¬ n ≤ i.toNatClampNeg) : vp_in i n := fun h => h.elim h1 h2
end
section
theorem dX0_init_0 : decode cX0_init 0 = .ok (.aload_n 0, 1) := by decide +kernel
theorem dX0_init_1 : decode cX0_init 1 = .ok (.invokespecial 3, 3) := by decide +kernel
theorem dX0_init_4 : decode cX0_init 4 = .ok (.aload_n 0, 1) := by decide +kernel
theorem dX0_init_5 : decode cX0_init 5 = .ok (.sipush 4096, 3) := by decide +kernel
theorem dX0_init_8 : decode cX0_init 8 = .ok (.newarray .int, 2) := by decide +kernel
theorem dX0_init_10 : decode cX0_init 10 = .ok (.putfield 9, 3) := by decide +kernel
theorem dX0_init_13 : decode cX0_init 13 = .ok (.aload_n 0, 1) := by decide +kernel
theorem dX0_init_14 : decode cX0_init 14 = .ok (.sipush 4096, 3) := by decide +kernel
theorem dX0_init_17 : decode cX0_init 17 = .ok (.newarray .int, 2) := by decide +kernel
theorem dX0_init_19 : decode cX0_init 19 = .ok (.putfield 15, 3) := by decide +kernel
theorem dX0_init_22 : decode cX0_init 22 = .ok (.aload_n 0, 1) := by decide +kernel
theorem dX0_init_23 : decode cX0_init 23 = .ok (.iconst 0, 1) := by decide +kernel
theorem dX0_init_24 : decode cX0_init 24 = .ok (.putfield 18, 3) := by decide +kernel
theorem dX0_init_27 : decode cX0_init 27 = .ok (.aload_n 0, 1) := by decide +kernel
theorem dX0_init_28 : decode cX0_init 28 = .ok (.aload_n 1, 1) := by decide +kernel
theorem dX0_init_29 : decode cX0_init 29 = .ok (.putfield 22, 3) := by decide +kernel
theorem dX0_init_32 : decode cX0_init 32 = .ok (.return_, 1) := by decide +kernel
theorem dX5_init_0 : decode cX5_init 0 = .ok (.aload_n 0, 1) := by decide +kernel
theorem dX5_init_1 : decode cX5_init 1 = .ok (.invokespecial 3, 3) := by decide +kernel
theorem dX5_init_4 : decode cX5_init 4 = .ok (.aload_n 0, 1) := by decide +kernel
theorem dX5_init_5 : decode cX5_init 5 = .ok (.sipush 4096, 3) := by decide +kernel
theorem dX5_init_8 : decode cX5_init 8 = .ok (.newarray .int, 2) := by decide +kernel
theorem dX5_init_10 : decode cX5_init 10 = .ok (.putfield 9, 3) := by decide +kernel
theorem dX5_init_13 : decode cX5_init 13 = .ok (.aload_n 0, 1) := by decide +kernel
theorem dX5_init_14 : decode cX5_init 14 = .ok (.sipush 4096, 3) := by decide +kernel
theorem dX5_init_17 : decode cX5_init 17 = .ok (.newarray .int, 2) := by decide +kernel
theorem dX5_init_19 : decode cX5_init 19 = .ok (.putfield 15, 3) := by decide +kernel
theorem dX5_init_22 : decode cX5_init 22 = .ok (.aload_n 0, 1) := by decide +kernel
theorem dX5_init_23 : decode cX5_init 23 = .ok (.iconst 0, 1) := by decide +kernel
theorem dX5_init_24 : decode cX5_init 24 = .ok (.putfield 18, 3) := by decide +kernel
theorem dX5_init_27 : decode cX5_init 27 = .ok (.aload_n 0, 1) := by decide +kernel
theorem dX5_init_28 : decode cX5_init 28 = .ok (.iconst 0, 1) := by decide +kernel
theorem dX5_init_29 : decode cX5_init 29 = .ok (.putfield 22, 3) := by decide +kernel
theorem dX5_init_32 : decode cX5_init 32 = .ok (.aload_n 0, 1) := by decide +kernel
theorem dX5_init_33 : decode cX5_init 33 = .ok (.aload_n 1, 1) := by decide +kernel
theorem dX5_init_34 : decode cX5_init 34 = .ok (.putfield 25, 3) := by decide +kernel
theorem dX5_init_37 : decode cX5_init 37 = .ok (.aload_n 0, 1) := by decide +kernel
theorem dX5_init_38 : decode cX5_init 38 = .ok (.aload_n 2, 1) := by decide +kernel
theorem dX5_init_39 : decode cX5_init 39 = .ok (.putfield 29, 3) := by decide +kernel
theorem dX5_init_42 : decode cX5_init 42 = .ok (.return_, 1) := by decide +kernel
theorem dX1_init_0 : decode cX1_init 0 = .ok (.aload_n 0, 1) := by decide +kernel
theorem dX1_init_1 : decode cX1_init 1 = .ok (.invokespecial 3, 3) := by decide +kernel
theorem dX1_init_4 : decode cX1_init 4 = .ok (.aload_n 0, 1) := by decide +kernel
theorem dX1_init_5 : decode cX1_init 5 = .ok (.sipush 1024, 3) := by decide +kernel
theorem dX1_init_8 : decode cX1_init 8 = .ok (.newarray .int, 2) := by decide +kernel
theorem dX1_init_10 : decode cX1_init 10 = .ok (.putfield 9, 3) := by decide +kernel
theorem dX1_init_13 : decode cX1_init 13 = .ok (.aload_n 0, 1) := by decide +kernel
theorem dX1_init_14 : decode cX1_init 14 = .ok (.sipush 1024, 3) := by decide +kernel
theorem dX1_init_17 : decode cX1_init 17 = .ok (.newarray .int, 2) := by decide +kernel
theorem dX1_init_19 : decode cX1_init 19 = .ok (.putfield 15, 3) := by decide +kernel
theorem dX1_init_22 : decode cX1_init 22 = .ok (.aload_n 0, 1) := by decide +kernel
theorem dX1_init_23 : decode cX1_init 23 = .ok (.sipush 1024, 3) := by decide +kernel
theorem dX1_init_26 : decode cX1_init 26 = .ok (.newarray .int, 2) := by decide +kernel
theorem dX1_init_28 : decode cX1_init 28 = .ok (.putfield 18, 3) := by decide +kernel
theorem dX1_init_31 : decode cX1_init 31 = .ok (.aload_n 0, 1) := by decide +kernel
theorem dX1_init_32 : decode cX1_init 32 = .ok (.iconst 0, 1) := by decide +kernel
theorem dX1_init_33 : decode cX1_init 33 = .ok (.putfield 21, 3) := by decide +kernel
theorem dX1_init_36 : decode cX1_init 36 = .ok (.aload_n 0, 1) := by decide +kernel
theorem dX1_init_37 : decode cX1_init 37 = .ok (.iconst 0, 1) := by decide +kernel
theorem dX1_init_38 : decode cX1_init 38 = .ok (.putfield 25, 3) := by decide +kernel
theorem dX1_init_41 : decode cX1_init 41 = .ok (.aload_n 0, 1) := by decide +kernel
theorem dX1_init_42 : decode cX1_init 42 = .ok (.iconst (-1), 1) := by decide +kernel
theorem dX1_init_43 : decode cX1_init 43 = .ok (.putfield 29, 3) := by decide +kernel
theorem dX1_init_46 : decode cX1_init 46 = .ok (.aload_n 0, 1) := by decide +kernel
theorem dX1_init_47 : decode cX1_init 47 = .ok (.iconst 0, 1) := by decide +kernel
theorem dX1_init_48 : decode cX1_init 48 = .ok (.putfield 32, 3) := by decide +kernel
theorem dX1_init_51 : decode cX1_init 51 = .ok (.aload_n 0, 1) := by decide +kernel
theorem dX1_init_52 : decode cX1_init 52 = .ok (.iconst 0, 1) := by decide +kernel
theorem dX1_init_53 : decode cX1_init 53 = .ok (.putfield 35, 3) := by decide +kernel
theorem dX1_init_56 : decode cX1_init 56 = .ok (.aload_n 0, 1) := by decide +kernel
theorem dX1_init_57 : decode cX1_init 57 = .ok (.aload_n 1, 1) := by decide +kernel
theorem dX1_init_58 : decode cX1_init 58 = .ok (.putfield 38, 3) := by decide +kernel
theorem dX1_init_61 : decode cX1_init 61 = .ok (.aload_n 0, 1) := by decide +kernel
theorem dX1_init_62 : decode cX1_init 62 = .ok (.new 42, 3) := by decide +kernel
theorem dX1_init_65 : decode cX1_init 65 = .ok (.dup, 1) := by decide +kernel
theorem dX1_init_66 : decode cX1_init 66 = .ok (.aload_n 1, 1) := by decide +kernel
theorem dX1_init_67 : decode cX1_init 67 = .ok (.invokespecial 44, 3) := by decide +kernel
theorem dX1_init_70 : decode cX1_init 70 = .ok (.putfield 47, 3) := by decide +kernel
theorem dX1_init_73 : decode cX1_init 73 = .ok (.aload_n 0, 1) := by decide +kernel
theorem dX1_init_74 : decode cX1_init 74 = .ok (.new 51, 3) := by decide +kernel
theorem dX1_init_77 : decode cX1_init 77 = .ok (.dup, 1) := by decide +kernel
theorem dX1_init_78 : decode cX1_init 78 = .ok (.aload_n 1, 1) := by decide +kernel
theorem dX1_init_79 : decode cX1_init 79 = .ok (.aload_n 0, 1) := by decide +kernel
theorem dX1_init_80 : decode cX1_init 80 = .ok (.getfield 47, 3) := by decide +kernel
theorem dX1_init_83 : decode cX1_init 83 = .ok (.invokespecial 53, 3) := by decide +kernel
theorem dX1_init_86 : decode cX1_init 86 = .ok (.putfield 56, 3) := by decide +kernel
theorem dX1_init_89 : decode cX1_init 89 = .ok (.return_, 1) := by decide +kernel
theorem dX2_init_0 : decode cX2_init 0 = .ok (.aload_n 0, 1) := by decide +kernel
theorem dX2_init_1 : decode cX2_init 1 = .ok (.invokespecial 3, 3) := by decide +kernel
theorem dX2_init_4 : decode cX2_init 4 = .ok (.aload_n 0, 1) := by decide +kernel
theorem dX2_init_5 : decode cX2_init 5 = .ok (.sipush 4096, 3) := by decide +kernel
theorem dX2_init_8 : decode cX2_init 8 = .ok (.newarray .int, 2) := by decide +kernel
theorem dX2_init_10 : decode cX2_init 10 = .ok (.putfield 9, 3) := by decide +kernel
theorem dX2_init_13 : decode cX2_init 13 = .ok (.aload_n 0, 1) := by decide +kernel
theorem dX2_init_14 : decode cX2_init 14 = .ok (.sipush 4096, 3) := by decide +kernel
theorem dX2_init_17 : decode cX2_init 17 = .ok (.newarray .int, 2) := by decide +kernel
theorem dX2_init_19 : decode cX2_init 19 = .ok (.putfield 15, 3) := by decide +kernel
theorem dX2_init_22 : decode cX2_init 22 = .ok (.aload_n 0, 1) := by decide +kernel
theorem dX2_init_23 : decode cX2_init 23 = .ok (.sipush 4096, 3) := by decide +kernel
theorem dX2_init_26 : decode cX2_init 26 = .ok (.newarray .int, 2) := by decide +kernel
theorem dX2_init_28 : decode cX2_init 28 = .ok (.putfield 18, 3) := by decide +kernel
theorem dX2_init_31 : decode cX2_init 31 = .ok (.aload_n 0, 1) := by decide +kernel
theorem dX2_init_32 : decode cX2_init 32 = .ok (.sipush 4096, 3) := by decide +kernel
theorem dX2_init_35 : decode cX2_init 35 = .ok (.newarray .int, 2) := by decide +kernel
theorem dX2_init_37 : decode cX2_init 37 = .ok (.putfield 21, 3) := by decide +kernel
theorem dX2_init_40 : decode cX2_init 40 = .ok (.aload_n 0, 1) := by decide +kernel
theorem dX2_init_41 : decode cX2_init 41 = .ok (.sipush 4096, 3) := by decide +kernel
theorem dX2_init_44 : decode cX2_init 44 = .ok (.newarray .boolean, 2) := by decide +kernel
theorem dX2_init_46 : decode cX2_init 46 = .ok (.putfield 24, 3) := by decide +kernel
theorem dX2_init_49 : decode cX2_init 49 = .ok (.aload_n 0, 1) := by decide +kernel
theorem dX2_init_50 : decode cX2_init 50 = .ok (.iconst 0, 1) := by decide +kernel
theorem dX2_init_51 : decode cX2_init 51 = .ok (.putfield 28, 3) := by decide +kernel
theorem dX2_init_54 : decode cX2_init 54 = .ok (.return_, 1) := by decide +kernel
theorem dX3_init_0 : decode cX3_init 0 = .ok (.aload_n 0, 1) := by decide +kernel
theorem dX3_init_1 : decode cX3_init 1 = .ok (.invokespecial 3, 3) := by decide +kernel
theorem dX3_init_4 : decode cX3_init 4 = .ok (.aload_n 0, 1) := by decide +kernel
theorem dX3_init_5 : decode cX3_init 5 = .ok (.sipush 4096, 3) := by decide +kernel
theorem dX3_init_8 : decode cX3_init 8 = .ok (.newarray .int, 2) := by decide +kernel
theorem dX3_init_10 : decode cX3_init 10 = .ok (.putfield 9, 3) := by decide +kernel
theorem dX3_init_13 : decode cX3_init 13 = .ok (.aload_n 0, 1) := by decide +kernel
theorem dX3_init_14 : decode cX3_init 14 = .ok (.sipush 4096, 3) := by decide +kernel
theorem dX3_init_17 : decode cX3_init 17 = .ok (.newarray .int, 2) := by decide +kernel
theorem dX3_init_19 : decode cX3_init 19 = .ok (.putfield 15, 3) := by decide +kernel
theorem dX3_init_22 : decode cX3_init 22 = .ok (.aload_n 0, 1) := by decide +kernel
theorem dX3_init_23 : decode cX3_init 23 = .ok (.iconst 0, 1) := by decide +kernel
theorem dX3_init_24 : decode cX3_init 24 = .ok (.putfield 18, 3) := by decide +kernel
theorem dX3_init_27 : decode cX3_init 27 = .ok (.aload_n 0, 1) := by decide +kernel
theorem dX3_init_28 : decode cX3_init 28 = .ok (.iconst (-1), 1) := by decide +kernel
theorem dX3_init_29 : decode cX3_init 29 = .ok (.putfield 22, 3) := by decide +kernel
theorem dX3_init_32 : decode cX3_init 32 = .ok (.aload_n 0, 1) := by decide +kernel
theorem dX3_init_33 : decode cX3_init 33 = .ok (.iconst 0, 1) := by decide +kernel
theorem dX3_init_34 : decode cX3_init 34 = .ok (.putfield 25, 3) := by decide +kernel
theorem dX3_init_37 : decode cX3_init 37 = .ok (.aload_n 0, 1) := by decide +kernel
theorem dX3_init_38 : decode cX3_init 38 = .ok (.aload_n 1, 1) := by decide +kernel
theorem dX3_init_39 : decode cX3_init 39 = .ok (.putfield 28, 3) := by decide +kernel
theorem dX3_init_42 : decode cX3_init 42 = .ok (.return_, 1) := by decide +kernel
theorem dX4_init_0 : decode cX4_init 0 = .ok (.aload_n 0, 1) := by decide +kernel
theorem dX4_init_1 : decode cX4_init 1 = .ok (.invokespecial 3, 3) := by decide +kernel
theorem dX4_init_4 : decode cX4_init 4 = .ok (.aload_n 0, 1) := by decide +kernel
theorem dX4_init_5 : decode cX4_init 5 = .ok (.bipush 26, 2) := by decide +kernel
theorem dX4_init_7 : decode cX4_init 7 = .ok (.newarray .int, 2) := by decide +kernel
theorem dX4_init_9 : decode cX4_init 9 = .ok (.putfield 9, 3) := by decide +kernel
theorem dX4_init_12 : decode cX4_init 12 = .ok (.aload_n 0, 1) := by decide +kernel
theorem dX4_init_13 : decode cX4_init 13 = .ok (.bipush 60, 2) := by decide +kernel
theorem dX4_init_15 : decode cX4_init 15 = .ok (.newarray .int, 2) := by decide +kernel
theorem dX4_init_17 : decode cX4_init 17 = .ok (.putfield 15, 3) := by decide +kernel
theorem dX4_init_20 : decode cX4_init 20 = .ok (.aload_n 0, 1) := by decide +kernel
theorem dX4_init_21 : decode cX4_init 21 = .ok (.iconst 0, 1) := by decide +kernel
theorem dX4_init_22 : decode cX4_init 22 = .ok (.putfield 18, 3) := by decide +kernel
theorem dX4_init_25 : decode cX4_init 25 = .ok (.aload_n 0, 1) := by decide +kernel
theorem dX4_init_26 : decode cX4_init 26 = .ok (.iconst 0, 1) := by decide +kernel
theorem dX4_init_27 : decode cX4_init 27 = .ok (.putfield 22, 3) := by decide +kernel
theorem dX4_init_30 : decode cX4_init 30 = .ok (.aload_n 0, 1) := by decide +kernel
theorem dX4_init_31 : decode cX4_init 31 = .ok (.iconst 0, 1) := by decide +kernel
theorem dX4_init_32 : decode cX4_init 32 = .ok (.putfield 25, 3) := by decide +kernel
theorem dX4_init_35 : decode cX4_init 35 = .ok (.aload_n 0, 1) := by decide +kernel
theorem dX4_init_36 : decode cX4_init 36 = .ok (.iconst 0, 1) := by decide +kernel
theorem dX4_init_37 : decode cX4_init 37 = .ok (.putfield 28, 3) := by decide +kernel
theorem dX4_init_40 : decode cX4_init 40 = .ok (.aload_n 0, 1) := by decide +kernel
theorem dX4_init_41 : decode cX4_init 41 = .ok (.iconst (-1), 1) := by decide +kernel
theorem dX4_init_42 : decode cX4_init 42 = .ok (.putfield 31, 3) := by decide +kernel
theorem dX4_init_45 : decode cX4_init 45 = .ok (.aload_n 0, 1) := by decide +kernel
theorem dX4_init_46 : decode cX4_init 46 = .ok (.aload_n 1, 1) := by decide +kernel
theorem dX4_init_47 : decode cX4_init 47 = .ok (.putfield 34, 3) := by decide +kernel
theorem dX4_init_50 : decode cX4_init 50 = .ok (.aload_n 0, 1) := by decide +kernel
theorem dX4_init_51 : decode cX4_init 51 = .ok (.aload_n 2, 1) := by decide +kernel
theorem dX4_init_52 : decode cX4_init 52 = .ok (.putfield 38, 3) := by decide +kernel
theorem dX4_init_55 : decode cX4_init 55 = .ok (.return_, 1) := by decide +kernel
theorem dX6_init_0 : decode cX6_init 0 = .ok (.aload_n 0, 1) := by decide +kernel
theorem dX6_init_1 : decode cX6_init 1 = .ok (.invokespecial 1, 3) := by decide +kernel
theorem dX6_init_4 : decode cX6_init 4 = .ok (.aload_n 0, 1) := by decide +kernel
theorem dX6_init_5 : decode cX6_init 5 = .ok (.bipush 60, 2) := by decide +kernel
theorem dX6_init_7 : decode cX6_init 7 = .ok (.newarray .int, 2) := by decide +kernel
theorem dX6_init_9 : decode cX6_init 9 = .ok (.putfield 9, 3) := by decide +kernel
theorem dX6_init_12 : decode cX6_init 12 = .ok (.aload_n 0, 1) := by decide +kernel
theorem dX6_init_13 : decode cX6_init 13 = .ok (.iconst 0, 1) := by decide +kernel
theorem dX6_init_14 : decode cX6_init 14 = .ok (.putfield 13, 3) := by decide +kernel
theorem dX6_init_17 : decode cX6_init 17 = .ok (.aload_n 0, 1) := by decide +kernel
theorem dX6_init_18 : decode cX6_init 18 = .ok (.iconst (-1), 1) := by decide +kernel
theorem dX6_init_19 : decode cX6_init 19 = .ok (.putfield 17, 3) := by decide +kernel
theorem dX6_init_22 : decode cX6_init 22 = .ok (.aload_n 0, 1) := by decide +kernel
theorem dX6_init_23 : decode cX6_init 23 = .ok (.new 20, 3) := by decide +kernel
theorem dX6_init_26 : decode cX6_init 26 = .ok (.dup, 1) := by decide +kernel
theorem dX6_init_27 : decode cX6_init 27 = .ok (.invokespecial 22, 3) := by decide +kernel
theorem dX6_init_30 : decode cX6_init 30 = .ok (.putfield 23, 3) := by decide +kernel
theorem dX6_init_33 : decode cX6_init 33 = .ok (.aload_n 0, 1) := by decide +kernel
theorem dX6_init_34 : decode cX6_init 34 = .ok (.new 27, 3) := by decide +kernel
theorem dX6_init_37 : decode cX6_init 37 = .ok (.dup, 1) := by decide +kernel
theorem dX6_init_38 : decode cX6_init 38 = .ok (.aload_n 0, 1) := by decide +kernel
theorem dX6_init_39 : decode cX6_init 39 = .ok (.getfield 23, 3) := by decide +kernel
theorem dX6_init_42 : decode cX6_init 42 = .ok (.aload_n 0, 1) := by decide +kernel
theorem dX6_init_43 : decode cX6_init 43 = .ok (.getfield 9, 3) := by decide +kernel
theorem dX6_init_46 : decode cX6_init 46 = .ok (.invokespecial 29, 3) := by decide +kernel
theorem dX6_init_49 : decode cX6_init 49 = .ok (.putfield 32, 3) := by decide +kernel
theorem dX6_init_52 : decode cX6_init 52 = .ok (.aload_n 0, 1) := by decide +kernel
theorem dX6_init_53 : decode cX6_init 53 = .ok (.new 36, 3) := by decide +kernel
theorem dX6_init_56 : decode cX6_init 56 = .ok (.dup, 1) := by decide +kernel
theorem dX6_init_57 : decode cX6_init 57 = .ok (.aload_n 0, 1) := by decide +kernel
theorem dX6_init_58 : decode cX6_init 58 = .ok (.getfield 23, 3) := by decide +kernel
theorem dX6_init_61 : decode cX6_init 61 = .ok (.invokespecial 38, 3) := by decide +kernel
theorem dX6_init_64 : decode cX6_init 64 = .ok (.putfield 41, 3) := by decide +kernel
theorem dX6_init_67 : decode cX6_init 67 = .ok (.aload_n 0, 1) := by decide +kernel
theorem dX6_init_68 : decode cX6_init 68 = .ok (.new 45, 3) := by decide +kernel
theorem dX6_init_71 : decode cX6_init 71 = .ok (.dup, 1) := by decide +kernel
theorem dX6_init_72 : decode cX6_init 72 = .ok (.aload_n 0, 1) := by decide +kernel
theorem dX6_init_73 : decode cX6_init 73 = .ok (.getfield 23, 3) := by decide +kernel
theorem dX6_init_76 : decode cX6_init 76 = .ok (.invokespecial 47, 3) := by decide +kernel
theorem dX6_init_79 : decode cX6_init 79 = .ok (.putfield 48, 3) := by decide +kernel
theorem dX6_init_82 : decode cX6_init 82 = .ok (.return_, 1) := by decide +kernel
theorem dX7_init_0 : decode cX7_init 0 = .ok (.aload_n 0, 1) := by decide +kernel
theorem dX7_init_1 : decode cX7_init 1 = .ok (.invokespecial 1, 3) := by decide +kernel
theorem dX7_init_4 : decode cX7_init 4 = .ok (.aload_n 0, 1) := by decide +kernel
theorem dX7_init_5 : decode cX7_init 5 = .ok (.bipush 60, 2) := by decide +kernel
theorem dX7_init_7 : decode cX7_init 7 = .ok (.newarray .int, 2) := by decide +kernel
theorem dX7_init_9 : decode cX7_init 9 = .ok (.putfield 7, 3) := by decide +kernel
theorem dX7_init_12 : decode cX7_init 12 = .ok (.aload_n 0, 1) := by decide +kernel
theorem dX7_init_13 : decode cX7_init 13 = .ok (.iconst (-1), 1) := by decide +kernel
theorem dX7_init_14 : decode cX7_init 14 = .ok (.putfield 13, 3) := by decide +kernel
theorem dX7_init_17 : decode cX7_init 17 = .ok (.aload_n 0, 1) := by decide +kernel
theorem dX7_init_18 : decode cX7_init 18 = .ok (.ldc 17, 2) := by decide +kernel
theorem dX7_init_20 : decode cX7_init 20 = .ok (.newarray .int, 2) := by decide +kernel
theorem dX7_init_22 : decode cX7_init 22 = .ok (.putfield 18, 3) := by decide +kernel
theorem dX7_init_25 : decode cX7_init 25 = .ok (.aload_n 0, 1) := by decide +kernel
theorem dX7_init_26 : decode cX7_init 26 = .ok (.ldc 17, 2) := by decide +kernel
theorem dX7_init_28 : decode cX7_init 28 = .ok (.newarray .int, 2) := by decide +kernel
theorem dX7_init_30 : decode cX7_init 30 = .ok (.putfield 21, 3) := by decide +kernel
theorem dX7_init_33 : decode cX7_init 33 = .ok (.aload_n 0, 1) := by decide +kernel
theorem dX7_init_34 : decode cX7_init 34 = .ok (.ldc 17, 2) := by decide +kernel
theorem dX7_init_36 : decode cX7_init 36 = .ok (.newarray .int, 2) := by decide +kernel
theorem dX7_init_38 : decode cX7_init 38 = .ok (.putfield 24, 3) := by decide +kernel
theorem dX7_init_41 : decode cX7_init 41 = .ok (.aload_n 0, 1) := by decide +kernel
theorem dX7_init_42 : decode cX7_init 42 = .ok (.sipush 128, 3) := by decide +kernel
theorem dX7_init_45 : decode cX7_init 45 = .ok (.newarray .int, 2) := by decide +kernel
theorem dX7_init_47 : decode cX7_init 47 = .ok (.putfield 27, 3) := by decide +kernel
theorem dX7_init_50 : decode cX7_init 50 = .ok (.aload_n 0, 1) := by decide +kernel
theorem dX7_init_51 : decode cX7_init 51 = .ok (.sipush 128, 3) := by decide +kernel
theorem dX7_init_54 : decode cX7_init 54 = .ok (.newarray .int, 2) := by decide +kernel
theorem dX7_init_56 : decode cX7_init 56 = .ok (.putfield 30, 3) := by decide +kernel
theorem dX7_init_59 : decode cX7_init 59 = .ok (.aload_n 0, 1) := by decide +kernel
theorem dX7_init_60 : decode cX7_init 60 = .ok (.sipush 128, 3) := by decide +kernel
theorem dX7_init_63 : decode cX7_init 63 = .ok (.newarray .int, 2) := by decide +kernel
theorem dX7_init_65 : decode cX7_init 65 = .ok (.putfield 33, 3) := by decide +kernel
theorem dX7_init_68 : decode cX7_init 68 = .ok (.aload_n 0, 1) := by decide +kernel
theorem dX7_init_69 : decode cX7_init 69 = .ok (.sipush 130, 3) := by decide +kernel
theorem dX7_init_72 : decode cX7_init 72 = .ok (.newarray .int, 2) := by decide +kernel
theorem dX7_init_74 : decode cX7_init 74 = .ok (.putfield 36, 3) := by decide +kernel
theorem dX7_init_77 : decode cX7_init 77 = .ok (.aload_n 0, 1) := by decide +kernel
theorem dX7_init_78 : decode cX7_init 78 = .ok (.sipush 130, 3) := by decide +kernel
theorem dX7_init_81 : decode cX7_init 81 = .ok (.newarray .int, 2) := by decide +kernel
theorem dX7_init_83 : decode cX7_init 83 = .ok (.putfield 39, 3) := by decide +kernel
theorem dX7_init_86 : decode cX7_init 86 = .ok (.aload_n 0, 1) := by decide +kernel
theorem dX7_init_87 : decode cX7_init 87 = .ok (.sipush 130, 3) := by decide +kernel
theorem dX7_init_90 : decode cX7_init 90 = .ok (.newarray .int, 2) := by decide +kernel
theorem dX7_init_92 : decode cX7_init 92 = .ok (.putfield 42, 3) := by decide +kernel
theorem dX7_init_95 : decode cX7_init 95 = .ok (.aload_n 0, 1) := by decide +kernel
theorem dX7_init_96 : decode cX7_init 96 = .ok (.sipush 4000, 3) := by decide +kernel
theorem dX7_init_99 : decode cX7_init 99 = .ok (.newarray .int, 2) := by decide +kernel
theorem dX7_init_101 : decode cX7_init 101 = .ok (.putfield 45, 3) := by decide +kernel
theorem dX7_init_104 : decode cX7_init 104 = .ok (.aload_n 0, 1) := by decide +kernel
theorem dX7_init_105 : decode cX7_init 105 = .ok (.sipush 4000, 3) := by decide +kernel
theorem dX7_init_108 : decode cX7_init 108 = .ok (.newarray .int, 2) := by decide +kernel
theorem dX7_init_110 : decode cX7_init 110 = .ok (.putfield 48, 3) := by decide +kernel
theorem dX7_init_113 : decode cX7_init 113 = .ok (.aload_n 0, 1) := by decide +kernel
theorem dX7_init_114 : decode cX7_init 114 = .ok (.sipush 4000, 3) := by decide +kernel
theorem dX7_init_117 : decode cX7_init 117 = .ok (.newarray .int, 2) := by decide +kernel
theorem dX7_init_119 : decode cX7_init 119 = .ok (.putfield 51, 3) := by decide +kernel
theorem dX7_init_122 : decode cX7_init 122 = .ok (.aload_n 0, 1) := by decide +kernel
theorem dX7_init_123 : decode cX7_init 123 = .ok (.sipush 8000, 3) := by decide +kernel
theorem dX7_init_126 : decode cX7_init 126 = .ok (.newarray .int, 2) := by decide +kernel
theorem dX7_init_128 : decode cX7_init 128 = .ok (.putfield 54, 3) := by decide +kernel
theorem dX7_init_131 : decode cX7_init 131 = .ok (.aload_n 0, 1) := by decide +kernel
theorem dX7_init_132 : decode cX7_init 132 = .ok (.sipush 8000, 3) := by decide +kernel
theorem dX7_init_135 : decode cX7_init 135 = .ok (.newarray .int, 2) := by decide +kernel
theorem dX7_init_137 : decode cX7_init 137 = .ok (.putfield 57, 3) := by decide +kernel
theorem dX7_init_140 : decode cX7_init 140 = .ok (.aload_n 0, 1) := by decide +kernel
theorem dX7_init_141 : decode cX7_init 141 = .ok (.sipush 8000, 3) := by decide +kernel
theorem dX7_init_144 : decode cX7_init 144 = .ok (.newarray .int, 2) := by decide +kernel
theorem dX7_init_146 : decode cX7_init 146 = .ok (.putfield 60, 3) := by decide +kernel
theorem dX7_init_149 : decode cX7_init 149 = .ok (.aload_n 0, 1) := by decide +kernel
theorem dX7_init_150 : decode cX7_init 150 = .ok (.sipush 8000, 3) := by decide +kernel
theorem dX7_init_153 : decode cX7_init 153 = .ok (.newarray .int, 2) := by decide +kernel
theorem dX7_init_155 : decode cX7_init 155 = .ok (.putfield 63, 3) := by decide +kernel
theorem dX7_init_158 : decode cX7_init 158 = .ok (.aload_n 0, 1) := by decide +kernel
theorem dX7_init_159 : decode cX7_init 159 = .ok (.sipush 8000, 3) := by decide +kernel
theorem dX7_init_162 : decode cX7_init 162 = .ok (.newarray .int, 2) := by decide +kernel
theorem dX7_init_164 : decode cX7_init 164 = .ok (.putfield 66, 3) := by decide +kernel
theorem dX7_init_167 : decode cX7_init 167 = .ok (.aload_n 0, 1) := by decide +kernel
theorem dX7_init_168 : decode cX7_init 168 = .ok (.sipush 8000, 3) := by decide +kernel
theorem dX7_init_171 : decode cX7_init 171 = .ok (.newarray .int, 2) := by decide +kernel
theorem dX7_init_173 : decode cX7_init 173 = .ok (.putfield 69, 3) := by decide +kernel
theorem dX7_init_176 : decode cX7_init 176 = .ok (.aload_n 0, 1) := by decide +kernel
theorem dX7_init_177 : decode cX7_init 177 = .ok (.sipush 20000, 3) := by decide +kernel
theorem dX7_init_180 : decode cX7_init 180 = .ok (.newarray .int, 2) := by decide +kernel
theorem dX7_init_182 : decode cX7_init 182 = .ok (.putfield 72, 3) := by decide +kernel
theorem dX7_init_185 : decode cX7_init 185 = .ok (.aload_n 0, 1) := by decide +kernel
theorem dX7_init_186 : decode cX7_init 186 = .ok (.bipush 64, 2) := by decide +kernel
theorem dX7_init_188 : decode cX7_init 188 = .ok (.newarray .int, 2) := by decide +kernel
theorem dX7_init_190 : decode cX7_init 190 = .ok (.putfield 75, 3) := by decide +kernel
theorem dX7_init_193 : decode cX7_init 193 = .ok (.return_, 1) := by decide +kernel
theorem dJ7_fill_53178_0 : decode cJ7_fill_53178 0 = .ok (.iconst 0, 1) := by decide +kernel
theorem dJ7_fill_53178_1 : decode cJ7_fill_53178 1 = .ok (.istore_n 2, 1) := by decide +kernel
theorem dJ7_fill_53178_2 : decode cJ7_fill_53178 2 = .ok (.aload_n 0, 1) := by decide +kernel
theorem dJ7_fill_53178_3 : decode cJ7_fill_53178 3 = .ok (.arraylength, 1) := by decide +kernel
theorem dJ7_fill_53178_4 : decode cJ7_fill_53178 4 = .ok (.istore_n 3, 1) := by decide +kernel
theorem dJ7_fill_53178_5 : decode cJ7_fill_53178 5 = .ok (.iload_n 2, 1) := by decide +kernel
theorem dJ7_fill_53178_6 : decode cJ7_fill_53178 6 = .ok (.iload_n 3, 1) := by decide +kernel
theorem dJ7_fill_53178_7 : decode cJ7_fill_53178 7 = .ok (.if_icmp .ge 13, 3) := by decide +kernel
theorem dJ7_fill_53178_10 : decode cJ7_fill_53178 10 = .ok (.aload_n 0, 1) := by decide +kernel
theorem dJ7_fill_53178_11 : decode cJ7_fill_53178 11 = .ok (.iload_n 2, 1) := by decide +kernel
theorem dJ7_fill_53178_12 : decode cJ7_fill_53178 12 = .ok (.iload_n 1, 1) := by decide +kernel
theorem dJ7_fill_53178_13 : decode cJ7_fill_53178 13 = .ok (.iastore, 1) := by decide +kernel
theorem dJ7_fill_53178_14 : decode cJ7_fill_53178 14 = .ok (.iinc 2 1, 3) := by decide +kernel
theorem dJ7_fill_53178_17 : decode cJ7_fill_53178 17 = .ok (.goto (-12), 3) := by decide +kernel
theorem dJ7_fill_53178_20 : decode cJ7_fill_53178 20 = .ok (.return_, 1) := by decide +kernel
theorem dX4_start_0 : decode cX4_start 0 = .ok (.aload_n 0, 1) := by decide +kernel
theorem dX4_start_1 : decode cX4_start 1 = .ok (.iload_n 1, 1) := by decide +kernel
theorem dX4_start_2 : decode cX4_start 2 = .ok (.aload_n 0, 1) := by decide +kernel
theorem dX4_start_3 : decode cX4_start 3 = .ok (.getfield 38, 3) := by decide +kernel
theorem dX4_start_6 : decode cX4_start 6 = .ok (.arraylength, 1) := by decide +kernel
theorem dX4_start_7 : decode cX4_start 7 = .ok (.invokestatic 41, 3) := by decide +kernel
theorem dX4_start_10 : decode cX4_start 10 = .ok (.putfield 22, 3) := by decide +kernel
theorem dX4_start_13 : decode cX4_start 13 = .ok (.aload_n 0, 1) := by decide +kernel
theorem dX4_start_14 : decode cX4_start 14 = .ok (.iconst 0, 1) := by decide +kernel
theorem dX4_start_15 : decode cX4_start 15 = .ok (.putfield 25, 3) := by decide +kernel
theorem dX4_start_18 : decode cX4_start 18 = .ok (.aload_n 0, 1) := by decide +kernel
theorem dX4_start_19 : decode cX4_start 19 = .ok (.iconst 0, 1) := by decide +kernel
theorem dX4_start_20 : decode cX4_start 20 = .ok (.putfield 28, 3) := by decide +kernel
theorem dX4_start_23 : decode cX4_start 23 = .ok (.aload_n 0, 1) := by decide +kernel
theorem dX4_start_24 : decode cX4_start 24 = .ok (.iconst (-1), 1) := by decide +kernel
theorem dX4_start_25 : decode cX4_start 25 = .ok (.putfield 31, 3) := by decide +kernel
theorem dX4_start_28 : decode cX4_start 28 = .ok (.aload_n 0, 1) := by decide +kernel
theorem dX4_start_29 : decode cX4_start 29 = .ok (.iconst 0, 1) := by decide +kernel
theorem dX4_start_30 : decode cX4_start 30 = .ok (.putfield 18, 3) := by decide +kernel
theorem dX4_start_33 : decode cX4_start 33 = .ok (.aload_n 0, 1) := by decide +kernel
theorem dX4_start_34 : decode cX4_start 34 = .ok (.getfield 9, 3) := by decide +kernel
theorem dX4_start_37 : decode cX4_start 37 = .ok (.iconst 0, 1) := by decide +kernel
theorem dX4_start_38 : decode cX4_start 38 = .ok (.invokestatic 47, 3) := by decide +kernel
theorem dX4_start_41 : decode cX4_start 41 = .ok (.return_, 1) := by decide +kernel
theorem dX2_make_0 : decode cX2_make 0 = .ok (.aload_n 0, 1) := by decide +kernel
theorem dX2_make_1 : decode cX2_make 1 = .ok (.getfield 28, 3) := by decide +kernel
theorem dX2_make_4 : decode cX2_make 4 = .ok (.sipush 4096, 3) := by decide +kernel
theorem dX2_make_7 : decode cX2_make 7 = .ok (.if_icmp .lt 5, 3) := by decide +kernel
theorem dX2_make_12 : decode cX2_make 12 = .ok (.aload_n 0, 1) := by decide +kernel
theorem dX2_make_13 : decode cX2_make 13 = .ok (.getfield 28, 3) := by decide +kernel
theorem dX2_make_16 : decode cX2_make 16 = .ok (.istore 4, 2) := by decide +kernel
theorem dX2_make_18 : decode cX2_make 18 = .ok (.aload_n 0, 1) := by decide +kernel
theorem dX2_make_19 : decode cX2_make 19 = .ok (.dup, 1) := by decide +kernel
theorem dX2_make_20 : decode cX2_make 20 = .ok (.getfield 28, 3) := by decide +kernel
theorem dX2_make_23 : decode cX2_make 23 = .ok (.iconst 1, 1) := by decide +kernel
theorem dX2_make_24 : decode cX2_make 24 = .ok (.iadd, 1) := by decide +kernel
theorem dX2_make_25 : decode cX2_make 25 = .ok (.putfield 28, 3) := by decide +kernel
theorem dX2_make_28 : decode cX2_make 28 = .ok (.aload_n 0, 1) := by decide +kernel
theorem dX2_make_29 : decode cX2_make 29 = .ok (.getfield 9, 3) := by decide +kernel
theorem dX2_make_32 : decode cX2_make 32 = .ok (.iload 4, 2) := by decide +kernel
theorem dX2_make_34 : decode cX2_make 34 = .ok (.iload_n 1, 1) := by decide +kernel
theorem dX2_make_35 : decode cX2_make 35 = .ok (.iastore, 1) := by decide +kernel
theorem dX2_make_36 : decode cX2_make 36 = .ok (.aload_n 0, 1) := by decide +kernel
theorem dX2_make_37 : decode cX2_make 37 = .ok (.getfield 15, 3) := by decide +kernel
theorem dX2_make_40 : decode cX2_make 40 = .ok (.iload 4, 2) := by decide +kernel
theorem dX2_make_42 : decode cX2_make 42 = .ok (.iload_n 2, 1) := by decide +kernel
theorem dX2_make_43 : decode cX2_make 43 = .ok (.iastore, 1) := by decide +kernel
theorem dX2_make_44 : decode cX2_make 44 = .ok (.aload_n 0, 1) := by decide +kernel
theorem dX2_make_45 : decode cX2_make 45 = .ok (.getfield 18, 3) := by decide +kernel
theorem dX2_make_48 : decode cX2_make 48 = .ok (.iload 4, 2) := by decide +kernel
theorem dX2_make_50 : decode cX2_make 50 = .ok (.iload_n 3, 1) := by decide +kernel
theorem dX2_make_51 : decode cX2_make 51 = .ok (.iastore, 1) := by decide +kernel
theorem dX2_make_52 : decode cX2_make 52 = .ok (.aload_n 0, 1) := by decide +kernel
theorem dX2_make_53 : decode cX2_make 53 = .ok (.getfield 21, 3) := by decide +kernel
theorem dX2_make_56 : decode cX2_make 56 = .ok (.iload 4, 2) := by decide +kernel
theorem dX2_make_58 : decode cX2_make 58 = .ok (.iconst 0, 1) := by decide +kernel
theorem dX2_make_59 : decode cX2_make 59 = .ok (.iastore, 1) := by decide +kernel
theorem dX2_make_60 : decode cX2_make 60 = .ok (.aload_n 0, 1) := by decide +kernel
theorem dX2_make_61 : decode cX2_make 61 = .ok (.getfield 24, 3) := by decide +kernel
theorem dX2_make_64 : decode cX2_make 64 = .ok (.iload 4, 2) := by decide +kernel
theorem dX2_make_66 : decode cX2_make 66 = .ok (.iconst 1, 1) := by decide +kernel
theorem dX2_make_67 : decode cX2_make 67 = .ok (.bastore, 1) := by decide +kernel
theorem dX2_make_68 : decode cX2_make 68 = .ok (.iload 4, 2) := by decide +kernel
theorem dX2_make_70 : decode cX2_make 70 = .ok (.ireturn, 1) := by decide +kernel
theorem dX2_clear_0 : decode cX2_clear 0 = .ok (.aload_n 0, 1) := by decide +kernel
theorem dX2_clear_1 : decode cX2_clear 1 = .ok (.iconst 0, 1) := by decide +kernel
theorem dX2_clear_2 : decode cX2_clear 2 = .ok (.putfield 28, 3) := by decide +kernel
theorem dX2_clear_5 : decode cX2_clear 5 = .ok (.aload_n 0, 1) := by decide +kernel
theorem dX2_clear_6 : decode cX2_clear 6 = .ok (.iconst 0, 1) := by decide +kernel
theorem dX2_clear_7 : decode cX2_clear 7 = .ok (.iconst (-1), 1) := by decide +kernel
theorem dX2_clear_8 : decode cX2_clear 8 = .ok (.iconst (-1), 1) := by decide +kernel
theorem dX2_clear_9 : decode cX2_clear 9 = .ok (.invokevirtual 32, 3) := by decide +kernel
theorem dX2_clear_12 : decode cX2_clear 12 = .ok (.pop, 1) := by decide +kernel
theorem dX2_clear_13 : decode cX2_clear 13 = .ok (.return_, 1) := by decide +kernel
theorem dX0_clear_0 : decode cX0_clear 0 = .ok (.aload_n 0, 1) := by decide +kernel
theorem dX0_clear_1 : decode cX0_clear 1 = .ok (.iconst 0, 1) := by decide +kernel
theorem dX0_clear_2 : decode cX0_clear 2 = .ok (.putfield 18, 3) := by decide +kernel
theorem dX0_clear_5 : decode cX0_clear 5 = .ok (.return_, 1) := by decide +kernel
theorem dX1_clear_0 : decode cX1_clear 0 = .ok (.aload_n 0, 1) := by decide +kernel
theorem dX1_clear_1 : decode cX1_clear 1 = .ok (.getfield 47, 3) := by decide +kernel
theorem dX1_clear_4 : decode cX1_clear 4 = .ok (.invokevirtual 60, 3) := by decide +kernel
theorem dX1_clear_7 : decode cX1_clear 7 = .ok (.aload_n 0, 1) := by decide +kernel
theorem dX1_clear_8 : decode cX1_clear 8 = .ok (.iconst 0, 1) := by decide +kernel
theorem dX1_clear_9 : decode cX1_clear 9 = .ok (.putfield 21, 3) := by decide +kernel
theorem dX1_clear_12 : decode cX1_clear 12 = .ok (.aload_n 0, 1) := by decide +kernel
theorem dX1_clear_13 : decode cX1_clear 13 = .ok (.iconst 0, 1) := by decide +kernel
end
section
theorem dX1_clear_14 : decode cX1_clear 14 = .ok (.putfield 25, 3) := by decide +kernel
theorem dX1_clear_17 : decode cX1_clear 17 = .ok (.aload_n 0, 1) := by decide +kernel
theorem dX1_clear_18 : decode cX1_clear 18 = .ok (.iconst (-1), 1) := by decide +kernel
theorem dX1_clear_19 : decode cX1_clear 19 = .ok (.putfield 29, 3) := by decide +kernel
theorem dX1_clear_22 : decode cX1_clear 22 = .ok (.aload_n 0, 1) := by decide +kernel
theorem dX1_clear_23 : decode cX1_clear 23 = .ok (.iconst 0, 1) := by decide +kernel
theorem dX1_clear_24 : decode cX1_clear 24 = .ok (.putfield 32, 3) := by decide +kernel
theorem dX1_clear_27 : decode cX1_clear 27 = .ok (.aload_n 0, 1) := by decide +kernel
theorem dX1_clear_28 : decode cX1_clear 28 = .ok (.iconst 0, 1) := by decide +kernel
theorem dX1_clear_29 : decode cX1_clear 29 = .ok (.putfield 35, 3) := by decide +kernel
theorem dX1_clear_32 : decode cX1_clear 32 = .ok (.return_, 1) := by decide +kernel
theorem dX3_clear_0 : decode cX3_clear 0 = .ok (.aload_n 0, 1) := by decide +kernel
theorem dX3_clear_1 : decode cX3_clear 1 = .ok (.iconst (-1), 1) := by decide +kernel
theorem dX3_clear_2 : decode cX3_clear 2 = .ok (.putfield 22, 3) := by decide +kernel
theorem dX3_clear_5 : decode cX3_clear 5 = .ok (.return_, 1) := by decide +kernel
theorem dX6_startText_0 : decode cX6_startText 0 = .ok (.aload_n 0, 1) := by decide +kernel
theorem dX6_startText_1 : decode cX6_startText 1 = .ok (.getfield 23, 3) := by decide +kernel
theorem dX6_startText_4 : decode cX6_startText 4 = .ok (.invokevirtual 121, 3) := by decide +kernel
theorem dX6_startText_7 : decode cX6_startText 7 = .ok (.aload_n 0, 1) := by decide +kernel
theorem dX6_startText_8 : decode cX6_startText 8 = .ok (.getfield 41, 3) := by decide +kernel
theorem dX6_startText_11 : decode cX6_startText 11 = .ok (.invokevirtual 124, 3) := by decide +kernel
theorem dX6_startText_14 : decode cX6_startText 14 = .ok (.aload_n 0, 1) := by decide +kernel
theorem dX6_startText_15 : decode cX6_startText 15 = .ok (.getfield 48, 3) := by decide +kernel
theorem dX6_startText_18 : decode cX6_startText 18 = .ok (.invokevirtual 125, 3) := by decide +kernel
theorem dX6_startText_21 : decode cX6_startText 21 = .ok (.aload_n 0, 1) := by decide +kernel
theorem dX6_startText_22 : decode cX6_startText 22 = .ok (.getfield 32, 3) := by decide +kernel
theorem dX6_startText_25 : decode cX6_startText 25 = .ok (.aload_n 0, 1) := by decide +kernel
theorem dX6_startText_26 : decode cX6_startText 26 = .ok (.getfield 13, 3) := by decide +kernel
theorem dX6_startText_29 : decode cX6_startText 29 = .ok (.invokevirtual 126, 3) := by decide +kernel
theorem dX6_startText_32 : decode cX6_startText 32 = .ok (.aload_n 0, 1) := by decide +kernel
theorem dX6_startText_33 : decode cX6_startText 33 = .ok (.iconst 0, 1) := by decide +kernel
theorem dX6_startText_34 : decode cX6_startText 34 = .ok (.putfield 13, 3) := by decide +kernel
theorem dX6_startText_37 : decode cX6_startText 37 = .ok (.return_, 1) := by decide +kernel
theorem dX4_peek_0 : decode cX4_peek 0 = .ok (.aload_n 0, 1) := by decide +kernel
theorem dX4_peek_1 : decode cX4_peek 1 = .ok (.getfield 25, 3) := by decide +kernel
theorem dX4_peek_4 : decode cX4_peek 4 = .ok (.aload_n 0, 1) := by decide +kernel
theorem dX4_peek_5 : decode cX4_peek 5 = .ok (.getfield 22, 3) := by decide +kernel
theorem dX4_peek_8 : decode cX4_peek 8 = .ok (.if_icmp .ge 30, 3) := by decide +kernel
theorem dX4_peek_38 : decode cX4_peek 38 = .ok (.aload_n 0, 1) := by decide +kernel
theorem dX4_peek_39 : decode cX4_peek 39 = .ok (.getfield 25, 3) := by decide +kernel
theorem dX4_peek_42 : decode cX4_peek 42 = .ok (.aload_n 0, 1) := by decide +kernel
theorem dX4_peek_43 : decode cX4_peek 43 = .ok (.getfield 22, 3) := by decide +kernel
theorem dX4_peek_46 : decode cX4_peek 46 = .ok (.if_icmp .ge 15, 3) := by decide +kernel
theorem dX4_peek_61 : decode cX4_peek 61 = .ok (.iconst (-1), 1) := by decide +kernel
theorem dX4_peek_62 : decode cX4_peek 62 = .ok (.ireturn, 1) := by decide +kernel
theorem dX4_refuse_0 : decode cX4_refuse 0 = .ok (.aload_n 0, 1) := by decide +kernel
theorem dX4_refuse_1 : decode cX4_refuse 1 = .ok (.aload_n 0, 1) := by decide +kernel
theorem dX4_refuse_2 : decode cX4_refuse 2 = .ok (.getfield 25, 3) := by decide +kernel
theorem dX4_refuse_5 : decode cX4_refuse 5 = .ok (.putfield 31, 3) := by decide +kernel
theorem dX4_refuse_8 : decode cX4_refuse 8 = .ok (.iconst (-1), 1) := by decide +kernel
theorem dX4_refuse_9 : decode cX4_refuse 9 = .ok (.ireturn, 1) := by decide +kernel
theorem dX4_isLetter_0 : decode cX4_isLetter 0 = .ok (.iload_n 0, 1) := by decide +kernel
theorem dX4_isLetter_1 : decode cX4_isLetter 1 = .ok (.bipush 97, 2) := by decide +kernel
theorem dX4_isLetter_3 : decode cX4_isLetter 3 = .ok (.if_icmp .lt 13, 3) := by decide +kernel
theorem dX4_isLetter_16 : decode cX4_isLetter 16 = .ok (.iconst 0, 1) := by decide +kernel
theorem dX4_isLetter_17 : decode cX4_isLetter 17 = .ok (.ireturn, 1) := by decide +kernel
theorem dX4_termAtom_0 : decode cX4_termAtom 0 = .ok (.aload_n 0, 1) := by decide +kernel
theorem dX4_termAtom_1 : decode cX4_termAtom 1 = .ok (.invokevirtual 57, 3) := by decide +kernel
theorem dX4_termAtom_4 : decode cX4_termAtom 4 = .ok (.istore_n 2, 1) := by decide +kernel
theorem dX4_termAtom_5 : decode cX4_termAtom 5 = .ok (.iload_n 1, 1) := by decide +kernel
theorem dX4_termAtom_6 : decode cX4_termAtom 6 = .ok (.bipush 40, 2) := by decide +kernel
theorem dX4_termAtom_8 : decode cX4_termAtom 8 = .ok (.if_icmp .le 8, 3) := by decide +kernel
theorem dX4_termAtom_16 : decode cX4_termAtom 16 = .ok (.iload_n 2, 1) := by decide +kernel
theorem dX4_termAtom_17 : decode cX4_termAtom 17 = .ok (.bipush 49, 2) := by decide +kernel
theorem dX4_termAtom_19 : decode cX4_termAtom 19 = .ok (.if_icmp .ne 25, 3) := by decide +kernel
theorem dX4_termAtom_44 : decode cX4_termAtom 44 = .ok (.iload_n 2, 1) := by decide +kernel
theorem dX4_termAtom_45 : decode cX4_termAtom 45 = .ok (.bipush 92, 2) := by decide +kernel
theorem dX4_termAtom_47 : decode cX4_termAtom 47 = .ok (.if_icmp .ne 9, 3) := by decide +kernel
theorem dX4_termAtom_56 : decode cX4_termAtom 56 = .ok (.iload_n 2, 1) := by decide +kernel
theorem dX4_termAtom_57 : decode cX4_termAtom 57 = .ok (.bipush 40, 2) := by decide +kernel
theorem dX4_termAtom_59 : decode cX4_termAtom 59 = .ok (.if_icmp .ne 9, 3) := by decide +kernel
theorem dX4_termAtom_68 : decode cX4_termAtom 68 = .ok (.iload_n 2, 1) := by decide +kernel
theorem dX4_termAtom_69 : decode cX4_termAtom 69 = .ok (.invokestatic 71, 3) := by decide +kernel
theorem dX4_termAtom_72 : decode cX4_termAtom 72 = .ok (.ifCond .eq 15, 3) := by decide +kernel
theorem dX4_termAtom_87 : decode cX4_termAtom 87 = .ok (.aload_n 0, 1) := by decide +kernel
theorem dX4_termAtom_88 : decode cX4_termAtom 88 = .ok (.invokevirtual 61, 3) := by decide +kernel
theorem dX4_termAtom_91 : decode cX4_termAtom 91 = .ok (.ireturn, 1) := by decide +kernel
theorem dX4_term_0 : decode cX4_term 0 = .ok (.aload_n 0, 1) := by decide +kernel
theorem dX4_term_1 : decode cX4_term 1 = .ok (.iload_n 1, 1) := by decide +kernel
theorem dX4_term_2 : decode cX4_term 2 = .ok (.invokevirtual 74, 3) := by decide +kernel
theorem dX4_term_5 : decode cX4_term 5 = .ok (.istore_n 2, 1) := by decide +kernel
theorem dX4_term_6 : decode cX4_term 6 = .ok (.iconst 1, 1) := by decide +kernel
theorem dX4_term_7 : decode cX4_term 7 = .ok (.istore_n 3, 1) := by decide +kernel
theorem dX4_term_8 : decode cX4_term 8 = .ok (.iload_n 3, 1) := by decide +kernel
theorem dX4_term_9 : decode cX4_term 9 = .ok (.bipush 60, 2) := by decide +kernel
theorem dX4_term_11 : decode cX4_term 11 = .ok (.if_icmp .gt 54, 3) := by decide +kernel
theorem dX4_term_14 : decode cX4_term 14 = .ok (.iload_n 2, 1) := by decide +kernel
theorem dX4_term_15 : decode cX4_term 15 = .ok (.iconst (-1), 1) := by decide +kernel
theorem dX4_term_16 : decode cX4_term 16 = .ok (.if_icmp .eq 49, 3) := by decide +kernel
theorem dX4_term_65 : decode cX4_term 65 = .ok (.iload_n 2, 1) := by decide +kernel
theorem dX4_term_66 : decode cX4_term 66 = .ok (.ireturn, 1) := by decide +kernel
theorem dX4_wholeTerm_0 : decode cX4_wholeTerm 0 = .ok (.aload_n 0, 1) := by decide +kernel
theorem dX4_wholeTerm_1 : decode cX4_wholeTerm 1 = .ok (.iconst 0, 1) := by decide +kernel
theorem dX4_wholeTerm_2 : decode cX4_wholeTerm 2 = .ok (.invokevirtual 53, 3) := by decide +kernel
theorem dX4_wholeTerm_5 : decode cX4_wholeTerm 5 = .ok (.istore_n 1, 1) := by decide +kernel
theorem dX4_wholeTerm_6 : decode cX4_wholeTerm 6 = .ok (.iload_n 1, 1) := by decide +kernel
theorem dX4_wholeTerm_7 : decode cX4_wholeTerm 7 = .ok (.iconst (-1), 1) := by decide +kernel
theorem dX4_wholeTerm_8 : decode cX4_wholeTerm 8 = .ok (.if_icmp .eq 18, 3) := by decide +kernel
theorem dX4_wholeTerm_26 : decode cX4_wholeTerm 26 = .ok (.iload_n 1, 1) := by decide +kernel
theorem dX4_wholeTerm_27 : decode cX4_wholeTerm 27 = .ok (.ireturn, 1) := by decide +kernel
theorem dX4_wrongAt_0 : decode cX4_wrongAt 0 = .ok (.aload_n 0, 1) := by decide +kernel
theorem dX4_wrongAt_1 : decode cX4_wrongAt 1 = .ok (.getfield 31, 3) := by decide +kernel
theorem dX4_wrongAt_4 : decode cX4_wrongAt 4 = .ok (.ireturn, 1) := by decide +kernel
theorem dX4_typeAtom_0 : decode cX4_typeAtom 0 = .ok (.aload_n 0, 1) := by decide +kernel
theorem dX4_typeAtom_1 : decode cX4_typeAtom 1 = .ok (.invokevirtual 57, 3) := by decide +kernel
theorem dX4_typeAtom_4 : decode cX4_typeAtom 4 = .ok (.istore_n 2, 1) := by decide +kernel
theorem dX4_typeAtom_5 : decode cX4_typeAtom 5 = .ok (.iload_n 1, 1) := by decide +kernel
theorem dX4_typeAtom_6 : decode cX4_typeAtom 6 = .ok (.bipush 40, 2) := by decide +kernel
theorem dX4_typeAtom_8 : decode cX4_typeAtom 8 = .ok (.if_icmp .le 8, 3) := by decide +kernel
theorem dX4_typeAtom_16 : decode cX4_typeAtom 16 = .ok (.iload_n 2, 1) := by decide +kernel
theorem dX4_typeAtom_17 : decode cX4_typeAtom 17 = .ok (.bipush 49, 2) := by decide +kernel
theorem dX4_typeAtom_19 : decode cX4_typeAtom 19 = .ok (.if_icmp .ne 15, 3) := by decide +kernel
theorem dX4_typeAtom_34 : decode cX4_typeAtom 34 = .ok (.iload_n 2, 1) := by decide +kernel
theorem dX4_typeAtom_35 : decode cX4_typeAtom 35 = .ok (.bipush 33, 2) := by decide +kernel
theorem dX4_typeAtom_37 : decode cX4_typeAtom 37 = .ok (.if_icmp .ne 9, 3) := by decide +kernel
theorem dX4_typeAtom_46 : decode cX4_typeAtom 46 = .ok (.iload_n 2, 1) := by decide +kernel
theorem dX4_typeAtom_47 : decode cX4_typeAtom 47 = .ok (.bipush 40, 2) := by decide +kernel
theorem dX4_typeAtom_49 : decode cX4_typeAtom 49 = .ok (.if_icmp .ne 9, 3) := by decide +kernel
theorem dX4_typeAtom_58 : decode cX4_typeAtom 58 = .ok (.iload_n 2, 1) := by decide +kernel
theorem dX4_typeAtom_59 : decode cX4_typeAtom 59 = .ok (.invokestatic 71, 3) := by decide +kernel
theorem dX4_typeAtom_62 : decode cX4_typeAtom 62 = .ok (.ifCond .eq 11, 3) := by decide +kernel
theorem dX4_typeAtom_73 : decode cX4_typeAtom 73 = .ok (.aload_n 0, 1) := by decide +kernel
theorem dX4_typeAtom_74 : decode cX4_typeAtom 74 = .ok (.invokevirtual 61, 3) := by decide +kernel
theorem dX4_typeAtom_77 : decode cX4_typeAtom 77 = .ok (.ireturn, 1) := by decide +kernel
theorem dX4_type_0 : decode cX4_type 0 = .ok (.aload_n 0, 1) := by decide +kernel
theorem dX4_type_1 : decode cX4_type 1 = .ok (.iload_n 1, 1) := by decide +kernel
theorem dX4_type_2 : decode cX4_type 2 = .ok (.invokevirtual 98, 3) := by decide +kernel
theorem dX4_type_5 : decode cX4_type 5 = .ok (.istore_n 2, 1) := by decide +kernel
theorem dX4_type_6 : decode cX4_type 6 = .ok (.iload_n 2, 1) := by decide +kernel
theorem dX4_type_7 : decode cX4_type 7 = .ok (.iconst (-1), 1) := by decide +kernel
theorem dX4_type_8 : decode cX4_type 8 = .ok (.if_icmp .eq 12, 3) := by decide +kernel
theorem dX4_type_20 : decode cX4_type 20 = .ok (.iload_n 2, 1) := by decide +kernel
theorem dX4_type_21 : decode cX4_type 21 = .ok (.ireturn, 1) := by decide +kernel
theorem dX4_typeBeforeSign_0 : decode cX4_typeBeforeSign 0 = .ok (.aload_n 0, 1) := by decide +kernel
theorem dX4_typeBeforeSign_1 : decode cX4_typeBeforeSign 1 = .ok (.iconst 0, 1) := by decide +kernel
theorem dX4_typeBeforeSign_2 : decode cX4_typeBeforeSign 2 = .ok (.invokevirtual 64, 3) := by decide +kernel
theorem dX4_typeBeforeSign_5 : decode cX4_typeBeforeSign 5 = .ok (.istore_n 1, 1) := by decide +kernel
theorem dX4_typeBeforeSign_6 : decode cX4_typeBeforeSign 6 = .ok (.iload_n 1, 1) := by decide +kernel
theorem dX4_typeBeforeSign_7 : decode cX4_typeBeforeSign 7 = .ok (.iconst (-1), 1) := by decide +kernel
theorem dX4_typeBeforeSign_8 : decode cX4_typeBeforeSign 8 = .ok (.if_icmp .ne 5, 3) := by decide +kernel
theorem dX4_typeBeforeSign_11 : decode cX4_typeBeforeSign 11 = .ok (.iconst (-1), 1) := by decide +kernel
theorem dX4_typeBeforeSign_12 : decode cX4_typeBeforeSign 12 = .ok (.ireturn, 1) := by decide +kernel
theorem dX4_typeBehindSign_0 : decode cX4_typeBehindSign 0 = .ok (.aload_n 0, 1) := by decide +kernel
theorem dX4_typeBehindSign_1 : decode cX4_typeBehindSign 1 = .ok (.getfield 31, 3) := by decide +kernel
theorem dX4_typeBehindSign_4 : decode cX4_typeBehindSign 4 = .ok (.iconst (-1), 1) := by decide +kernel
theorem dX4_typeBehindSign_5 : decode cX4_typeBehindSign 5 = .ok (.if_icmp .eq 5, 3) := by decide +kernel
theorem dX4_typeBehindSign_8 : decode cX4_typeBehindSign 8 = .ok (.iconst (-1), 1) := by decide +kernel
theorem dX4_typeBehindSign_9 : decode cX4_typeBehindSign 9 = .ok (.ireturn, 1) := by decide +kernel
theorem dX6_place_0 : decode cX6_place 0 = .ok (.aload_n 0, 1) := by decide +kernel
theorem dX6_place_1 : decode cX6_place 1 = .ok (.getfield 17, 3) := by decide +kernel
theorem dX6_place_4 : decode cX6_place 4 = .ok (.ireturn, 1) := by decide +kernel
theorem dX2_has_0 : decode cX2_has 0 = .ok (.iload_n 1, 1) := by decide +kernel
theorem dX2_has_1 : decode cX2_has 1 = .ok (.ifCond .lt 15, 3) := by decide +kernel
theorem dX2_has_16 : decode cX2_has 16 = .ok (.iconst 0, 1) := by decide +kernel
theorem dX2_has_17 : decode cX2_has 17 = .ok (.ireturn, 1) := by decide +kernel
theorem dX3_lengthOf_0 : decode cX3_lengthOf 0 = .ok (.aload_n 0, 1) := by decide +kernel
theorem dX3_lengthOf_1 : decode cX3_lengthOf 1 = .ok (.getfield 28, 3) := by decide +kernel
theorem dX3_lengthOf_4 : decode cX3_lengthOf 4 = .ok (.iload_n 1, 1) := by decide +kernel
theorem dX3_lengthOf_5 : decode cX3_lengthOf 5 = .ok (.invokevirtual 63, 3) := by decide +kernel
theorem dX3_lengthOf_8 : decode cX3_lengthOf 8 = .ok (.ifCond .eq 12, 3) := by decide +kernel
theorem dX3_lengthOf_20 : decode cX3_lengthOf 20 = .ok (.iconst 0, 1) := by decide +kernel
theorem dX3_lengthOf_21 : decode cX3_lengthOf 21 = .ok (.ireturn, 1) := by decide +kernel
theorem dX3_length_0 : decode cX3_length 0 = .ok (.aload_n 0, 1) := by decide +kernel
theorem dX3_length_1 : decode cX3_length 1 = .ok (.aload_n 0, 1) := by decide +kernel
theorem dX3_length_2 : decode cX3_length 2 = .ok (.getfield 22, 3) := by decide +kernel
theorem dX3_length_5 : decode cX3_length 5 = .ok (.invokevirtual 51, 3) := by decide +kernel
theorem dX3_length_8 : decode cX3_length 8 = .ok (.ireturn, 1) := by decide +kernel
theorem dX6_size_0 : decode cX6_size 0 = .ok (.aload_n 0, 1) := by decide +kernel
theorem dX6_size_1 : decode cX6_size 1 = .ok (.getfield 48, 3) := by decide +kernel
theorem dX6_size_4 : decode cX6_size 4 = .ok (.invokevirtual 103, 3) := by decide +kernel
theorem dX6_size_7 : decode cX6_size 7 = .ok (.ireturn, 1) := by decide +kernel
theorem dX1_madeUnknowns_0 : decode cX1_madeUnknowns 0 = .ok (.aload_n 0, 1) := by decide +kernel
theorem dX1_madeUnknowns_1 : decode cX1_madeUnknowns 1 = .ok (.getfield 32, 3) := by decide +kernel
theorem dX1_madeUnknowns_4 : decode cX1_madeUnknowns 4 = .ok (.ireturn, 1) := by decide +kernel
theorem dX1_solvedUnknowns_0 : decode cX1_solvedUnknowns 0 = .ok (.aload_n 0, 1) := by decide +kernel
theorem dX1_solvedUnknowns_1 : decode cX1_solvedUnknowns 1 = .ok (.getfield 35, 3) := by decide +kernel
theorem dX1_solvedUnknowns_4 : decode cX1_solvedUnknowns 4 = .ok (.ireturn, 1) := by decide +kernel
theorem dX6_unknowns_0 : decode cX6_unknowns 0 = .ok (.aload_n 0, 1) := by decide +kernel
theorem dX6_unknowns_1 : decode cX6_unknowns 1 = .ok (.getfield 41, 3) := by decide +kernel
theorem dX6_unknowns_4 : decode cX6_unknowns 4 = .ok (.invokevirtual 115, 3) := by decide +kernel
theorem dX6_unknowns_7 : decode cX6_unknowns 7 = .ok (.ireturn, 1) := by decide +kernel
theorem dX6_solved_0 : decode cX6_solved 0 = .ok (.aload_n 0, 1) := by decide +kernel
theorem dX6_solved_1 : decode cX6_solved 1 = .ok (.getfield 41, 3) := by decide +kernel
theorem dX6_solved_4 : decode cX6_solved 4 = .ok (.invokevirtual 118, 3) := by decide +kernel
theorem dX6_solved_7 : decode cX6_solved 7 = .ok (.ireturn, 1) := by decide +kernel
theorem dX7_thrown_0 : decode cX7_thrown 0 = .ok (.aload_n 0, 1) := by decide +kernel
theorem dX7_thrown_1 : decode cX7_thrown 1 = .ok (.getfield 78, 3) := by decide +kernel
theorem dX7_thrown_4 : decode cX7_thrown 4 = .ok (.ireturn, 1) := by decide +kernel
theorem dX7_throwing_0 : decode cX7_throwing 0 = .ok (.aload_n 0, 1) := by decide +kernel
theorem dX7_throwing_1 : decode cX7_throwing 1 = .ok (.iload_n 1, 1) := by decide +kernel
theorem dX7_throwing_2 : decode cX7_throwing 2 = .ok (.ifCond .eq 7, 3) := by decide +kernel
theorem dX7_throwing_5 : decode cX7_throwing 5 = .ok (.iconst 1, 1) := by decide +kernel
theorem dX7_throwing_6 : decode cX7_throwing 6 = .ok (.goto 12, 3) := by decide +kernel
theorem dX7_throwing_18 : decode cX7_throwing 18 = .ok (.putfield 78, 3) := by decide +kernel
theorem dX7_throwing_21 : decode cX7_throwing 21 = .ok (.aload_n 0, 1) := by decide +kernel
theorem dX7_throwing_22 : decode cX7_throwing 22 = .ok (.getfield 78, 3) := by decide +kernel
theorem dX7_throwing_25 : decode cX7_throwing 25 = .ok (.ifCond .le 7, 3) := by decide +kernel
theorem dX7_throwing_28 : decode cX7_throwing 28 = .ok (.iconst 1, 1) := by decide +kernel
theorem dX7_throwing_29 : decode cX7_throwing 29 = .ok (.goto 4, 3) := by decide +kernel
theorem dX7_throwing_33 : decode cX7_throwing 33 = .ok (.ireturn, 1) := by decide +kernel
theorem dX7_throwing_9 : decode cX7_throwing 9 = .ok (.iload_n 2, 1) := by decide +kernel
theorem dX7_throwing_10 : decode cX7_throwing 10 = .ok (.ifCond .eq 7, 3) := by decide +kernel
theorem dX7_throwing_17 : decode cX7_throwing 17 = .ok (.iconst 0, 1) := by decide +kernel
theorem dX7_throwing_32 : decode cX7_throwing 32 = .ok (.iconst 0, 1) := by decide +kernel
theorem dX7_see_0 : decode cX7_see 0 = .ok (.aload_n 0, 1) := by decide +kernel
theorem dX7_see_1 : decode cX7_see 1 = .ok (.getfield 94, 3) := by decide +kernel
theorem dX7_see_4 : decode cX7_see 4 = .ok (.aload_n 0, 1) := by decide +kernel
theorem dX7_see_5 : decode cX7_see 5 = .ok (.getfield 97, 3) := by decide +kernel
theorem dX7_see_8 : decode cX7_see 8 = .ok (.if_icmp .ge 30, 3) := by decide +kernel
theorem dX7_see_38 : decode cX7_see 38 = .ok (.aload_n 0, 1) := by decide +kernel
theorem dX7_see_39 : decode cX7_see 39 = .ok (.getfield 94, 3) := by decide +kernel
theorem dX7_see_42 : decode cX7_see 42 = .ok (.aload_n 0, 1) := by decide +kernel
theorem dX7_see_43 : decode cX7_see 43 = .ok (.getfield 97, 3) := by decide +kernel
theorem dX7_see_46 : decode cX7_see 46 = .ok (.if_icmp .ge 15, 3) := by decide +kernel
theorem dX7_see_61 : decode cX7_see 61 = .ok (.iconst (-1), 1) := by decide +kernel
theorem dX7_see_62 : decode cX7_see 62 = .ok (.ireturn, 1) := by decide +kernel
theorem dX7_fail_0 : decode cX7_fail 0 = .ok (.aload_n 0, 1) := by decide +kernel
theorem dX7_fail_1 : decode cX7_fail 1 = .ok (.getfield 100, 3) := by decide +kernel
theorem dX7_fail_4 : decode cX7_fail 4 = .ok (.ifCond .eq 4, 3) := by decide +kernel
theorem dX7_fail_8 : decode cX7_fail 8 = .ok (.aload_n 0, 1) := by decide +kernel
theorem dX7_fail_9 : decode cX7_fail 9 = .ok (.iconst 1, 1) := by decide +kernel
theorem dX7_fail_10 : decode cX7_fail 10 = .ok (.putfield 100, 3) := by decide +kernel
theorem dX7_fail_13 : decode cX7_fail 13 = .ok (.aload_n 0, 1) := by decide +kernel
theorem dX7_fail_14 : decode cX7_fail 14 = .ok (.aload_n 0, 1) := by decide +kernel
theorem dX7_fail_15 : decode cX7_fail 15 = .ok (.getfield 94, 3) := by decide +kernel
theorem dX7_fail_18 : decode cX7_fail 18 = .ok (.putfield 13, 3) := by decide +kernel
theorem dX7_fail_21 : decode cX7_fail 21 = .ok (.return_, 1) := by decide +kernel
theorem dX7_isLetter_0 : decode cX7_isLetter 0 = .ok (.iload_n 0, 1) := by decide +kernel
theorem dX7_isLetter_1 : decode cX7_isLetter 1 = .ok (.bipush 97, 2) := by decide +kernel
theorem dX7_isLetter_3 : decode cX7_isLetter 3 = .ok (.if_icmp .lt 13, 3) := by decide +kernel
theorem dX7_isLetter_16 : decode cX7_isLetter 16 = .ok (.iconst 0, 1) := by decide +kernel
theorem dX7_isLetter_17 : decode cX7_isLetter 17 = .ok (.ireturn, 1) := by decide +kernel
theorem dX7_open_0 : decode cX7_open 0 = .ok (.aload_n 0, 1) := by decide +kernel
theorem dX7_open_1 : decode cX7_open 1 = .ok (.getfield 36, 3) := by decide +kernel
theorem dX7_open_4 : decode cX7_open 4 = .ok (.aload_n 0, 1) := by decide +kernel
theorem dX7_open_5 : decode cX7_open 5 = .ok (.getfield 104, 3) := by decide +kernel
theorem dX7_open_8 : decode cX7_open 8 = .ok (.iload_n 1, 1) := by decide +kernel
theorem dX7_open_9 : decode cX7_open 9 = .ok (.iastore, 1) := by decide +kernel
theorem dX7_open_10 : decode cX7_open 10 = .ok (.aload_n 0, 1) := by decide +kernel
theorem dX7_open_11 : decode cX7_open 11 = .ok (.getfield 39, 3) := by decide +kernel
theorem dX7_open_14 : decode cX7_open 14 = .ok (.aload_n 0, 1) := by decide +kernel
theorem dX7_open_15 : decode cX7_open 15 = .ok (.getfield 104, 3) := by decide +kernel
theorem dX7_open_18 : decode cX7_open 18 = .ok (.iload_n 2, 1) := by decide +kernel
theorem dX7_open_19 : decode cX7_open 19 = .ok (.iastore, 1) := by decide +kernel
theorem dX7_open_20 : decode cX7_open 20 = .ok (.aload_n 0, 1) := by decide +kernel
theorem dX7_open_21 : decode cX7_open 21 = .ok (.getfield 42, 3) := by decide +kernel
theorem dX7_open_24 : decode cX7_open 24 = .ok (.aload_n 0, 1) := by decide +kernel
theorem dX7_open_25 : decode cX7_open 25 = .ok (.getfield 104, 3) := by decide +kernel
theorem dX7_open_28 : decode cX7_open 28 = .ok (.iload_n 3, 1) := by decide +kernel
theorem dX7_open_29 : decode cX7_open 29 = .ok (.iastore, 1) := by decide +kernel
theorem dX7_open_30 : decode cX7_open 30 = .ok (.aload_n 0, 1) := by decide +kernel
theorem dX7_open_31 : decode cX7_open 31 = .ok (.dup, 1) := by decide +kernel
theorem dX7_open_32 : decode cX7_open 32 = .ok (.getfield 104, 3) := by decide +kernel
theorem dX7_open_35 : decode cX7_open 35 = .ok (.iconst 1, 1) := by decide +kernel
theorem dX7_open_36 : decode cX7_open 36 = .ok (.iadd, 1) := by decide +kernel
theorem dX7_open_37 : decode cX7_open 37 = .ok (.putfield 104, 3) := by decide +kernel
theorem dX7_open_40 : decode cX7_open 40 = .ok (.return_, 1) := by decide +kernel
theorem dX7_begin_0 : decode cX7_begin 0 = .ok (.aload_n 0, 1) := by decide +kernel
theorem dX7_begin_1 : decode cX7_begin 1 = .ok (.aload_n 0, 1) := by decide +kernel
theorem dX7_begin_2 : decode cX7_begin 2 = .ok (.getfield 81, 3) := by decide +kernel
theorem dX7_begin_5 : decode cX7_begin 5 = .ok (.putfield 97, 3) := by decide +kernel
theorem dX7_begin_8 : decode cX7_begin 8 = .ok (.aload_n 0, 1) := by decide +kernel
theorem dX7_begin_9 : decode cX7_begin 9 = .ok (.iconst 0, 1) := by decide +kernel
theorem dX7_begin_10 : decode cX7_begin 10 = .ok (.putfield 81, 3) := by decide +kernel
theorem dX7_begin_13 : decode cX7_begin 13 = .ok (.aload_n 0, 1) := by decide +kernel
theorem dX7_begin_14 : decode cX7_begin 14 = .ok (.iconst 0, 1) := by decide +kernel
theorem dX7_begin_15 : decode cX7_begin 15 = .ok (.putfield 94, 3) := by decide +kernel
theorem dX7_begin_18 : decode cX7_begin 18 = .ok (.aload_n 0, 1) := by decide +kernel
theorem dX7_begin_19 : decode cX7_begin 19 = .ok (.iconst 0, 1) := by decide +kernel
theorem dX7_begin_20 : decode cX7_begin 20 = .ok (.putfield 100, 3) := by decide +kernel
theorem dX7_begin_23 : decode cX7_begin 23 = .ok (.aload_n 0, 1) := by decide +kernel
theorem dX7_begin_24 : decode cX7_begin 24 = .ok (.iconst (-1), 1) := by decide +kernel
theorem dX7_begin_25 : decode cX7_begin 25 = .ok (.putfield 13, 3) := by decide +kernel
theorem dX7_begin_28 : decode cX7_begin 28 = .ok (.aload_n 0, 1) := by decide +kernel
theorem dX7_begin_29 : decode cX7_begin 29 = .ok (.iconst 0, 1) := by decide +kernel
theorem dX7_begin_30 : decode cX7_begin 30 = .ok (.putfield 125, 3) := by decide +kernel
theorem dX7_begin_33 : decode cX7_begin 33 = .ok (.aload_n 0, 1) := by decide +kernel
theorem dX7_begin_34 : decode cX7_begin 34 = .ok (.iconst 0, 1) := by decide +kernel
theorem dX7_begin_35 : decode cX7_begin 35 = .ok (.putfield 88, 3) := by decide +kernel
theorem dX7_begin_38 : decode cX7_begin 38 = .ok (.aload_n 0, 1) := by decide +kernel
theorem dX7_begin_39 : decode cX7_begin 39 = .ok (.iconst 0, 1) := by decide +kernel
theorem dX7_begin_40 : decode cX7_begin 40 = .ok (.putfield 91, 3) := by decide +kernel
theorem dX7_begin_43 : decode cX7_begin 43 = .ok (.aload_n 0, 1) := by decide +kernel
theorem dX7_begin_44 : decode cX7_begin 44 = .ok (.iconst 0, 1) := by decide +kernel
theorem dX7_begin_45 : decode cX7_begin 45 = .ok (.putfield 118, 3) := by decide +kernel
theorem dX7_begin_48 : decode cX7_begin 48 = .ok (.aload_n 0, 1) := by decide +kernel
theorem dX7_begin_49 : decode cX7_begin 49 = .ok (.iconst 0, 1) := by decide +kernel
theorem dX7_begin_50 : decode cX7_begin 50 = .ok (.putfield 104, 3) := by decide +kernel
theorem dX7_begin_53 : decode cX7_begin 53 = .ok (.aload_n 0, 1) := by decide +kernel
theorem dX7_begin_54 : decode cX7_begin 54 = .ok (.iconst 0, 1) := by decide +kernel
theorem dX7_begin_55 : decode cX7_begin 55 = .ok (.putfield 149, 3) := by decide +kernel
theorem dX7_begin_58 : decode cX7_begin 58 = .ok (.aload_n 0, 1) := by decide +kernel
theorem dX7_begin_59 : decode cX7_begin 59 = .ok (.iconst 0, 1) := by decide +kernel
theorem dX7_begin_60 : decode cX7_begin 60 = .ok (.putfield 152, 3) := by decide +kernel
theorem dX7_begin_63 : decode cX7_begin 63 = .ok (.aload_n 0, 1) := by decide +kernel
theorem dX7_begin_64 : decode cX7_begin 64 = .ok (.iconst 0, 1) := by decide +kernel
theorem dX7_begin_65 : decode cX7_begin 65 = .ok (.putfield 155, 3) := by decide +kernel
theorem dX7_begin_68 : decode cX7_begin 68 = .ok (.aload_n 0, 1) := by decide +kernel
theorem dX7_begin_69 : decode cX7_begin 69 = .ok (.iconst 0, 1) := by decide +kernel
theorem dX7_begin_70 : decode cX7_begin 70 = .ok (.putfield 158, 3) := by decide +kernel
theorem dX7_begin_73 : decode cX7_begin 73 = .ok (.aload_n 0, 1) := by decide +kernel
theorem dX7_begin_74 : decode cX7_begin 74 = .ok (.iconst 0, 1) := by decide +kernel
theorem dX7_begin_75 : decode cX7_begin 75 = .ok (.putfield 161, 3) := by decide +kernel
theorem dX7_begin_78 : decode cX7_begin 78 = .ok (.aload_n 0, 1) := by decide +kernel
theorem dX7_begin_79 : decode cX7_begin 79 = .ok (.iconst 0, 1) := by decide +kernel
theorem dX7_begin_80 : decode cX7_begin 80 = .ok (.putfield 164, 3) := by decide +kernel
theorem dX7_begin_83 : decode cX7_begin 83 = .ok (.return_, 1) := by decide +kernel
theorem dX7_readTerm_0 : decode cX7_readTerm 0 = .ok (.aload_n 0, 1) := by decide +kernel
theorem dX7_readTerm_1 : decode cX7_readTerm 1 = .ok (.getfield 66, 3) := by decide +kernel
theorem dX7_readTerm_4 : decode cX7_readTerm 4 = .ok (.astore_n 1, 1) := by decide +kernel
theorem dX7_readTerm_5 : decode cX7_readTerm 5 = .ok (.aload_n 0, 1) := by decide +kernel
theorem dX7_readTerm_6 : decode cX7_readTerm 6 = .ok (.iconst 0, 1) := by decide +kernel
theorem dX7_readTerm_7 : decode cX7_readTerm 7 = .ok (.iconst 0, 1) := by decide +kernel
theorem dX7_readTerm_8 : decode cX7_readTerm 8 = .ok (.iconst 0, 1) := by decide +kernel
theorem dX7_readTerm_9 : decode cX7_readTerm 9 = .ok (.invokevirtual 121, 3) := by decide +kernel
theorem dX7_readTerm_12 : decode cX7_readTerm 12 = .ok (.aload_n 1, 1) := by decide +kernel
theorem dX7_readTerm_13 : decode cX7_readTerm 13 = .ok (.iconst 0, 1) := by decide +kernel
theorem dX7_readTerm_14 : decode cX7_readTerm 14 = .ok (.iconst (-1), 1) := by decide +kernel
theorem dX7_readTerm_15 : decode cX7_readTerm 15 = .ok (.iastore, 1) := by decide +kernel
theorem dX7_readTerm_16 : decode cX7_readTerm 16 = .ok (.aload_n 0, 1) := by decide +kernel
theorem dX7_readTerm_17 : decode cX7_readTerm 17 = .ok (.getfield 100, 3) := by decide +kernel
theorem dX7_readTerm_20 : decode cX7_readTerm 20 = .ok (.ifCond .ne 465, 3) := by decide +kernel
theorem dX7_readTerm_23 : decode cX7_readTerm 23 = .ok (.aload_n 0, 1) := by decide +kernel
theorem dX7_readTerm_24 : decode cX7_readTerm 24 = .ok (.invokevirtual 107, 3) := by decide +kernel
theorem dX7_readTerm_27 : decode cX7_readTerm 27 = .ok (.istore_n 3, 1) := by decide +kernel
theorem dX7_readTerm_28 : decode cX7_readTerm 28 = .ok (.iconst (-1), 1) := by decide +kernel
theorem dX7_readTerm_29 : decode cX7_readTerm 29 = .ok (.istore_n 2, 1) := by decide +kernel
theorem dX7_readTerm_30 : decode cX7_readTerm 30 = .ok (.iload_n 3, 1) := by decide +kernel
theorem dX7_readTerm_31 : decode cX7_readTerm 31 = .ok (.bipush 49, 2) := by decide +kernel
theorem dX7_readTerm_33 : decode cX7_readTerm 33 = .ok (.if_icmp .ne 24, 3) := by decide +kernel
theorem dX7_readTerm_57 : decode cX7_readTerm 57 = .ok (.iload_n 3, 1) := by decide +kernel
theorem dX7_readTerm_58 : decode cX7_readTerm 58 = .ok (.invokestatic 111, 3) := by decide +kernel
theorem dX7_readTerm_61 : decode cX7_readTerm 61 = .ok (.ifCond .eq 42, 3) := by decide +kernel
theorem dX7_readTerm_103 : decode cX7_readTerm 103 = .ok (.iload_n 3, 1) := by decide +kernel
theorem dX7_readTerm_104 : decode cX7_readTerm 104 = .ok (.bipush 92, 2) := by decide +kernel
theorem dX7_readTerm_106 : decode cX7_readTerm 106 = .ok (.if_icmp .ne 27, 3) := by decide +kernel
theorem dX7_readTerm_133 : decode cX7_readTerm 133 = .ok (.iload_n 3, 1) := by decide +kernel
theorem dX7_readTerm_134 : decode cX7_readTerm 134 = .ok (.bipush 40, 2) := by decide +kernel
theorem dX7_readTerm_136 : decode cX7_readTerm 136 = .ok (.if_icmp .ne 29, 3) := by decide +kernel
theorem dX7_readTerm_165 : decode cX7_readTerm 165 = .ok (.aload_n 0, 1) := by decide +kernel
theorem dX7_readTerm_166 : decode cX7_readTerm 166 = .ok (.invokevirtual 115, 3) := by decide +kernel
theorem dX7_readTerm_169 : decode cX7_readTerm 169 = .ok (.aload_n 0, 1) := by decide +kernel
theorem dX7_readTerm_170 : decode cX7_readTerm 170 = .ok (.getfield 100, 3) := by decide +kernel
theorem dX7_readTerm_173 : decode cX7_readTerm 173 = .ok (.ifCond .ne 309, 3) := by decide +kernel
theorem dX7_readTerm_482 : decode cX7_readTerm 482 = .ok (.goto (-466), 3) := by decide +kernel
theorem dX7_readTerm_485 : decode cX7_readTerm 485 = .ok (.iconst (-1), 1) := by decide +kernel
theorem dX7_readTerm_486 : decode cX7_readTerm 486 = .ok (.ireturn, 1) := by decide +kernel
theorem dX7_readType_0 : decode cX7_readType 0 = .ok (.aload_n 0, 1) := by decide +kernel
theorem dX7_readType_1 : decode cX7_readType 1 = .ok (.getfield 104, 3) := by decide +kernel
theorem dX7_readType_4 : decode cX7_readType 4 = .ok (.istore_n 1, 1) := by decide +kernel
theorem dX7_readType_5 : decode cX7_readType 5 = .ok (.aload_n 0, 1) := by decide +kernel
theorem dX7_readType_6 : decode cX7_readType 6 = .ok (.iconst 0, 1) := by decide +kernel
theorem dX7_readType_7 : decode cX7_readType 7 = .ok (.iconst 0, 1) := by decide +kernel
theorem dX7_readType_8 : decode cX7_readType 8 = .ok (.iconst 0, 1) := by decide +kernel
theorem dX7_readType_9 : decode cX7_readType 9 = .ok (.invokevirtual 121, 3) := by decide +kernel
theorem dX7_readType_12 : decode cX7_readType 12 = .ok (.iconst (-1), 1) := by decide +kernel
theorem dX7_readType_13 : decode cX7_readType 13 = .ok (.istore_n 2, 1) := by decide +kernel
theorem dX7_readType_14 : decode cX7_readType 14 = .ok (.aload_n 0, 1) := by decide +kernel
theorem dX7_readType_15 : decode cX7_readType 15 = .ok (.getfield 100, 3) := by decide +kernel
theorem dX7_readType_18 : decode cX7_readType 18 = .ok (.ifCond .ne 304, 3) := by decide +kernel
theorem dX7_readType_21 : decode cX7_readType 21 = .ok (.aload_n 0, 1) := by decide +kernel
theorem dX7_readType_22 : decode cX7_readType 22 = .ok (.invokevirtual 107, 3) := by decide +kernel
theorem dX7_readType_25 : decode cX7_readType 25 = .ok (.istore_n 3, 1) := by decide +kernel
theorem dX7_readType_26 : decode cX7_readType 26 = .ok (.iconst (-1), 1) := by decide +kernel
theorem dX7_readType_27 : decode cX7_readType 27 = .ok (.istore_n 2, 1) := by decide +kernel
theorem dX7_readType_28 : decode cX7_readType 28 = .ok (.iload_n 3, 1) := by decide +kernel
theorem dX7_readType_29 : decode cX7_readType 29 = .ok (.bipush 49, 2) := by decide +kernel
theorem dX7_readType_31 : decode cX7_readType 31 = .ok (.if_icmp .ne 24, 3) := by decide +kernel
theorem dX7_readType_55 : decode cX7_readType 55 = .ok (.iload_n 3, 1) := by decide +kernel
theorem dX7_readType_56 : decode cX7_readType 56 = .ok (.invokestatic 111, 3) := by decide +kernel
theorem dX7_readType_59 : decode cX7_readType 59 = .ok (.ifCond .eq 42, 3) := by decide +kernel
theorem dX7_readType_101 : decode cX7_readType 101 = .ok (.iload_n 3, 1) := by decide +kernel
theorem dX7_readType_102 : decode cX7_readType 102 = .ok (.bipush 33, 2) := by decide +kernel
theorem dX7_readType_104 : decode cX7_readType 104 = .ok (.if_icmp .ne 11, 3) := by decide +kernel
theorem dX7_readType_115 : decode cX7_readType 115 = .ok (.iload_n 3, 1) := by decide +kernel
theorem dX7_readType_116 : decode cX7_readType 116 = .ok (.bipush 40, 2) := by decide +kernel
theorem dX7_readType_118 : decode cX7_readType 118 = .ok (.if_icmp .ne 20, 3) := by decide +kernel
theorem dX7_readType_138 : decode cX7_readType 138 = .ok (.aload_n 0, 1) := by decide +kernel
theorem dX7_readType_139 : decode cX7_readType 139 = .ok (.invokevirtual 115, 3) := by decide +kernel
theorem dX7_readType_142 : decode cX7_readType 142 = .ok (.aload_n 0, 1) := by decide +kernel
theorem dX7_readType_143 : decode cX7_readType 143 = .ok (.getfield 100, 3) := by decide +kernel
theorem dX7_readType_146 : decode cX7_readType 146 = .ok (.ifCond .ne 173, 3) := by decide +kernel
theorem dX7_readType_319 : decode cX7_readType 319 = .ok (.goto (-305), 3) := by decide +kernel
theorem dX7_readType_322 : decode cX7_readType 322 = .ok (.iload_n 2, 1) := by decide +kernel
theorem dX7_readType_323 : decode cX7_readType 323 = .ok (.ireturn, 1) := by decide +kernel
theorem dX7_infer_0 : decode cX7_infer 0 = .ok (.aload_n 0, 1) := by decide +kernel
theorem dX7_infer_1 : decode cX7_infer 1 = .ok (.invokevirtual 226, 3) := by decide +kernel
theorem dX7_infer_4 : decode cX7_infer 4 = .ok (.aload_n 0, 1) := by decide +kernel
theorem dX7_infer_5 : decode cX7_infer 5 = .ok (.invokevirtual 229, 3) := by decide +kernel
theorem dX7_infer_8 : decode cX7_infer 8 = .ok (.istore_n 1, 1) := by decide +kernel
theorem dX7_infer_9 : decode cX7_infer 9 = .ok (.aload_n 0, 1) := by decide +kernel
theorem dX7_infer_10 : decode cX7_infer 10 = .ok (.aload_n 0, 1) := by decide +kernel
theorem dX7_infer_11 : decode cX7_infer 11 = .ok (.getfield 100, 3) := by decide +kernel
theorem dX7_infer_14 : decode cX7_infer 14 = .ok (.iconst 0, 1) := by decide +kernel
theorem dX7_infer_15 : decode cX7_infer 15 = .ok (.invokevirtual 84, 3) := by decide +kernel
theorem dX7_infer_18 : decode cX7_infer 18 = .ok (.ifCond .eq 5, 3) := by decide +kernel
theorem dX7_infer_21 : decode cX7_infer 21 = .ok (.iconst 0, 1) := by decide +kernel
theorem dX7_infer_22 : decode cX7_infer 22 = .ok (.ireturn, 1) := by decide +kernel
theorem dX7_below_0 : decode cX7_below 0 = .ok (.aload_n 0, 1) := by decide +kernel
theorem dX7_below_1 : decode cX7_below 1 = .ok (.invokevirtual 226, 3) := by decide +kernel
end
section
theorem dX7_below_4 : decode cX7_below 4 = .ok (.aload_n 0, 1) := by decide +kernel
theorem dX7_below_5 : decode cX7_below 5 = .ok (.invokevirtual 146, 3) := by decide +kernel
theorem dX7_below_8 : decode cX7_below 8 = .ok (.istore_n 1, 1) := by decide +kernel
theorem dX7_below_9 : decode cX7_below 9 = .ok (.aload_n 0, 1) := by decide +kernel
theorem dX7_below_10 : decode cX7_below 10 = .ok (.getfield 100, 3) := by decide +kernel
theorem dX7_below_13 : decode cX7_below 13 = .ok (.ifCond .ne 16, 3) := by decide +kernel
theorem dX7_below_29 : decode cX7_below 29 = .ok (.aload_n 0, 1) := by decide +kernel
theorem dX7_below_30 : decode cX7_below 30 = .ok (.dup, 1) := by decide +kernel
theorem dX7_below_31 : decode cX7_below 31 = .ok (.getfield 94, 3) := by decide +kernel
theorem dX7_below_34 : decode cX7_below 34 = .ok (.iconst 1, 1) := by decide +kernel
theorem dX7_below_35 : decode cX7_below 35 = .ok (.iadd, 1) := by decide +kernel
theorem dX7_below_36 : decode cX7_below 36 = .ok (.putfield 94, 3) := by decide +kernel
theorem dX7_below_39 : decode cX7_below 39 = .ok (.aload_n 0, 1) := by decide +kernel
theorem dX7_below_40 : decode cX7_below 40 = .ok (.getfield 100, 3) := by decide +kernel
theorem dX7_below_43 : decode cX7_below 43 = .ok (.ifCond .eq 7, 3) := by decide +kernel
theorem dX7_below_46 : decode cX7_below 46 = .ok (.iconst 0, 1) := by decide +kernel
theorem dX7_below_47 : decode cX7_below 47 = .ok (.goto 7, 3) := by decide +kernel
theorem dX7_below_54 : decode cX7_below 54 = .ok (.istore_n 2, 1) := by decide +kernel
theorem dX7_below_55 : decode cX7_below 55 = .ok (.aload_n 0, 1) := by decide +kernel
theorem dX7_below_56 : decode cX7_below 56 = .ok (.getfield 100, 3) := by decide +kernel
theorem dX7_below_59 : decode cX7_below 59 = .ok (.ifCond .ne 15, 3) := by decide +kernel
theorem dX7_below_74 : decode cX7_below 74 = .ok (.aload_n 0, 1) := by decide +kernel
theorem dX7_below_75 : decode cX7_below 75 = .ok (.aload_n 0, 1) := by decide +kernel
theorem dX7_below_76 : decode cX7_below 76 = .ok (.getfield 100, 3) := by decide +kernel
theorem dX7_below_79 : decode cX7_below 79 = .ok (.iconst 0, 1) := by decide +kernel
theorem dX7_below_80 : decode cX7_below 80 = .ok (.invokevirtual 84, 3) := by decide +kernel
theorem dX7_below_83 : decode cX7_below 83 = .ok (.ifCond .eq 5, 3) := by decide +kernel
theorem dX7_below_86 : decode cX7_below 86 = .ok (.iconst 0, 1) := by decide +kernel
theorem dX7_below_87 : decode cX7_below 87 = .ok (.ireturn, 1) := by decide +kernel
theorem dX7_place_0 : decode cX7_place 0 = .ok (.aload_n 0, 1) := by decide +kernel
theorem dX7_place_1 : decode cX7_place 1 = .ok (.iconst 0, 1) := by decide +kernel
theorem dX7_place_2 : decode cX7_place 2 = .ok (.putfield 78, 3) := by decide +kernel
theorem dX7_place_5 : decode cX7_place 5 = .ok (.aload_n 0, 1) := by decide +kernel
theorem dX7_place_6 : decode cX7_place 6 = .ok (.getfield 13, 3) := by decide +kernel
theorem dX7_place_9 : decode cX7_place 9 = .ok (.ireturn, 1) := by decide +kernel
theorem dX7_size_0 : decode cX7_size 0 = .ok (.aload_n 0, 1) := by decide +kernel
theorem dX7_size_1 : decode cX7_size 1 = .ok (.iconst 0, 1) := by decide +kernel
theorem dX7_size_2 : decode cX7_size 2 = .ok (.putfield 78, 3) := by decide +kernel
theorem dX7_size_5 : decode cX7_size 5 = .ok (.aload_n 0, 1) := by decide +kernel
theorem dX7_size_6 : decode cX7_size 6 = .ok (.getfield 164, 3) := by decide +kernel
theorem dX7_size_9 : decode cX7_size 9 = .ok (.ireturn, 1) := by decide +kernel
theorem dX7_unknowns_0 : decode cX7_unknowns 0 = .ok (.aload_n 0, 1) := by decide +kernel
theorem dX7_unknowns_1 : decode cX7_unknowns 1 = .ok (.iconst 0, 1) := by decide +kernel
theorem dX7_unknowns_2 : decode cX7_unknowns 2 = .ok (.putfield 78, 3) := by decide +kernel
theorem dX7_unknowns_5 : decode cX7_unknowns 5 = .ok (.aload_n 0, 1) := by decide +kernel
theorem dX7_unknowns_6 : decode cX7_unknowns 6 = .ok (.getfield 152, 3) := by decide +kernel
theorem dX7_unknowns_9 : decode cX7_unknowns 9 = .ok (.ireturn, 1) := by decide +kernel
theorem dX7_solved_0 : decode cX7_solved 0 = .ok (.aload_n 0, 1) := by decide +kernel
theorem dX7_solved_1 : decode cX7_solved 1 = .ok (.iconst 0, 1) := by decide +kernel
theorem dX7_solved_2 : decode cX7_solved 2 = .ok (.putfield 78, 3) := by decide +kernel
theorem dX7_solved_5 : decode cX7_solved 5 = .ok (.aload_n 0, 1) := by decide +kernel
theorem dX7_solved_6 : decode cX7_solved 6 = .ok (.getfield 155, 3) := by decide +kernel
theorem dX7_solved_9 : decode cX7_solved 9 = .ok (.ireturn, 1) := by decide +kernel
theorem dX7_out_0 : decode cX7_out 0 = .ok (.aload_n 0, 1) := by decide +kernel
theorem dX7_out_1 : decode cX7_out 1 = .ok (.iload_n 1, 1) := by decide +kernel
theorem dX7_out_2 : decode cX7_out 2 = .ok (.ifCond .lt 11, 3) := by decide +kernel
theorem dX7_out_13 : decode cX7_out 13 = .ok (.iconst 1, 1) := by decide +kernel
theorem dX7_out_14 : decode cX7_out 14 = .ok (.goto 4, 3) := by decide +kernel
theorem dX7_out_18 : decode cX7_out 18 = .ok (.iconst 0, 1) := by decide +kernel
theorem dX7_out_19 : decode cX7_out 19 = .ok (.invokevirtual 84, 3) := by decide +kernel
theorem dX7_out_22 : decode cX7_out 22 = .ok (.ifCond .eq 5, 3) := by decide +kernel
theorem dX7_out_25 : decode cX7_out 25 = .ok (.iconst 0, 1) := by decide +kernel
theorem dX7_out_26 : decode cX7_out 26 = .ok (.ireturn, 1) := by decide +kernel
theorem dX7_out_5 : decode cX7_out 5 = .ok (.iload_n 1, 1) := by decide +kernel
theorem dX7_out_6 : decode cX7_out 6 = .ok (.aload_n 0, 1) := by decide +kernel
theorem dX7_out_7 : decode cX7_out 7 = .ok (.getfield 164, 3) := by decide +kernel
theorem dX7_out_10 : decode cX7_out 10 = .ok (.if_icmp .lt 7, 3) := by decide +kernel
theorem dX7_feed_0 : decode cX7_feed 0 = .ok (.iload_n 3, 1) := by decide +kernel
theorem dX7_feed_1 : decode cX7_feed 1 = .ok (.iconst 1, 1) := by decide +kernel
theorem dX7_feed_2 : decode cX7_feed 2 = .ok (.if_icmp .lt 9, 3) := by decide +kernel
theorem dX7_feed_11 : decode cX7_feed 11 = .ok (.iconst 1, 1) := by decide +kernel
theorem dX7_feed_12 : decode cX7_feed 12 = .ok (.goto 4, 3) := by decide +kernel
theorem dX7_feed_16 : decode cX7_feed 16 = .ok (.istore 4, 2) := by decide +kernel
theorem dX7_feed_18 : decode cX7_feed 18 = .ok (.aload_n 0, 1) := by decide +kernel
theorem dX7_feed_19 : decode cX7_feed 19 = .ok (.iload 4, 2) := by decide +kernel
theorem dX7_feed_21 : decode cX7_feed 21 = .ok (.iload 4, 2) := by decide +kernel
theorem dX7_feed_23 : decode cX7_feed 23 = .ok (.ifCond .ne 18, 3) := by decide +kernel
theorem dX7_feed_41 : decode cX7_feed 41 = .ok (.iconst 0, 1) := by decide +kernel
theorem dX7_feed_42 : decode cX7_feed 42 = .ok (.invokevirtual 84, 3) := by decide +kernel
theorem dX7_feed_45 : decode cX7_feed 45 = .ok (.ifCond .eq 5, 3) := by decide +kernel
theorem dX7_feed_48 : decode cX7_feed 48 = .ok (.iconst 0, 1) := by decide +kernel
theorem dX7_feed_49 : decode cX7_feed 49 = .ok (.ireturn, 1) := by decide +kernel
theorem dX7_feed_5 : decode cX7_feed 5 = .ok (.iload_n 3, 1) := by decide +kernel
theorem dX7_feed_6 : decode cX7_feed 6 = .ok (.bipush 8, 2) := by decide +kernel
theorem dX7_feed_8 : decode cX7_feed 8 = .ok (.if_icmp .le 7, 3) := by decide +kernel
theorem dX7_feed_55 : decode cX7_feed 55 = .ok (.iload 5, 2) := by decide +kernel
theorem dX7_feed_57 : decode cX7_feed 57 = .ok (.ifCond .lt 40, 3) := by decide +kernel
theorem dX7_feed_60 : decode cX7_feed 60 = .ok (.aload_n 0, 1) := by decide +kernel
theorem dX7_feed_61 : decode cX7_feed 61 = .ok (.getfield 7, 3) := by decide +kernel
theorem dX7_feed_64 : decode cX7_feed 64 = .ok (.aload_n 0, 1) := by decide +kernel
theorem dX7_feed_65 : decode cX7_feed 65 = .ok (.getfield 81, 3) := by decide +kernel
theorem dX7_feed_68 : decode cX7_feed 68 = .ok (.lload_n 1, 1) := by decide +kernel
theorem dX7_feed_69 : decode cX7_feed 69 = .ok (.bipush 8, 2) := by decide +kernel
theorem dX7_feed_71 : decode cX7_feed 71 = .ok (.iload 5, 2) := by decide +kernel
theorem dX7_feed_73 : decode cX7_feed 73 = .ok (.imul, 1) := by decide +kernel
theorem dX7_feed_74 : decode cX7_feed 74 = .ok (.lshr, 1) := by decide +kernel
theorem dX7_feed_75 : decode cX7_feed 75 = .ok (.l2i, 1) := by decide +kernel
theorem dX7_feed_76 : decode cX7_feed 76 = .ok (.sipush 255, 3) := by decide +kernel
theorem dX7_feed_79 : decode cX7_feed 79 = .ok (.iand, 1) := by decide +kernel
theorem dX7_feed_80 : decode cX7_feed 80 = .ok (.iastore, 1) := by decide +kernel
theorem dX7_feed_81 : decode cX7_feed 81 = .ok (.aload_n 0, 1) := by decide +kernel
theorem dX7_feed_82 : decode cX7_feed 82 = .ok (.dup, 1) := by decide +kernel
theorem dX7_feed_83 : decode cX7_feed 83 = .ok (.getfield 81, 3) := by decide +kernel
theorem dX7_feed_86 : decode cX7_feed 86 = .ok (.iconst 1, 1) := by decide +kernel
theorem dX7_feed_87 : decode cX7_feed 87 = .ok (.iadd, 1) := by decide +kernel
theorem dX7_feed_88 : decode cX7_feed 88 = .ok (.putfield 81, 3) := by decide +kernel
theorem dX7_feed_91 : decode cX7_feed 91 = .ok (.iinc 5 (-1), 3) := by decide +kernel
theorem dX7_feed_94 : decode cX7_feed 94 = .ok (.goto (-39), 3) := by decide +kernel
theorem dX7_feed_15 : decode cX7_feed 15 = .ok (.iconst 0, 1) := by decide +kernel
theorem dX7_feed_26 : decode cX7_feed 26 = .ok (.aload_n 0, 1) := by decide +kernel
theorem dX7_feed_27 : decode cX7_feed 27 = .ok (.getfield 81, 3) := by decide +kernel
theorem dX7_feed_30 : decode cX7_feed 30 = .ok (.iload_n 3, 1) := by decide +kernel
theorem dX7_feed_31 : decode cX7_feed 31 = .ok (.iadd, 1) := by decide +kernel
theorem dX7_feed_32 : decode cX7_feed 32 = .ok (.bipush 60, 2) := by decide +kernel
theorem dX7_feed_34 : decode cX7_feed 34 = .ok (.if_icmp .le 7, 3) := by decide +kernel
theorem dX7_feed_50 : decode cX7_feed 50 = .ok (.iload_n 3, 1) := by decide +kernel
theorem dX7_feed_51 : decode cX7_feed 51 = .ok (.iconst 1, 1) := by decide +kernel
theorem dX7_feed_52 : decode cX7_feed 52 = .ok (.isub, 1) := by decide +kernel
theorem dX7_feed_53 : decode cX7_feed 53 = .ok (.istore 5, 2) := by decide +kernel
theorem dX7_feed_97 : decode cX7_feed 97 = .ok (.aload_n 0, 1) := by decide +kernel
theorem dX7_feed_98 : decode cX7_feed 98 = .ok (.getfield 81, 3) := by decide +kernel
theorem dX7_feed_101 : decode cX7_feed 101 = .ok (.ireturn, 1) := by decide +kernel
theorem dX6_feed_0 : decode cX6_feed 0 = .ok (.iload_n 3, 1) := by decide +kernel
theorem dX6_feed_1 : decode cX6_feed 1 = .ok (.iconst 1, 1) := by decide +kernel
theorem dX6_feed_2 : decode cX6_feed 2 = .ok (.if_icmp .lt 9, 3) := by decide +kernel
theorem dX6_feed_11 : decode cX6_feed 11 = .ok (.new 52, 3) := by decide +kernel
theorem dX6_feed_14 : decode cX6_feed 14 = .ok (.dup, 1) := by decide +kernel
theorem dX6_feed_15 : decode cX6_feed 15 = .ok (.ldc 54, 2) := by decide +kernel
theorem dX6_feed_17 : decode cX6_feed 17 = .ok (.invokespecial 56, 3) := by decide +kernel
theorem dX6_feed_20 : decode cX6_feed 20 = .ok (.athrow, 1) := by decide +kernel
theorem dX6_feed_5 : decode cX6_feed 5 = .ok (.iload_n 3, 1) := by decide +kernel
theorem dX6_feed_6 : decode cX6_feed 6 = .ok (.bipush 8, 2) := by decide +kernel
theorem dX6_feed_8 : decode cX6_feed 8 = .ok (.if_icmp .le 13, 3) := by decide +kernel
theorem dX6_feed_50 : decode cX6_feed 50 = .ok (.iload 4, 2) := by decide +kernel
theorem dX6_feed_52 : decode cX6_feed 52 = .ok (.ifCond .lt 37, 3) := by decide +kernel
theorem dX6_feed_55 : decode cX6_feed 55 = .ok (.aload_n 0, 1) := by decide +kernel
theorem dX6_feed_56 : decode cX6_feed 56 = .ok (.getfield 9, 3) := by decide +kernel
theorem dX6_feed_59 : decode cX6_feed 59 = .ok (.aload_n 0, 1) := by decide +kernel
theorem dX6_feed_60 : decode cX6_feed 60 = .ok (.getfield 13, 3) := by decide +kernel
theorem dX6_feed_63 : decode cX6_feed 63 = .ok (.lload_n 1, 1) := by decide +kernel
theorem dX6_feed_64 : decode cX6_feed 64 = .ok (.iload 4, 2) := by decide +kernel
theorem dX6_feed_66 : decode cX6_feed 66 = .ok (.lushr, 1) := by decide +kernel
theorem dX6_feed_67 : decode cX6_feed 67 = .ok (.ldc2_w 64, 3) := by decide +kernel
theorem dX6_feed_70 : decode cX6_feed 70 = .ok (.land, 1) := by decide +kernel
theorem dX6_feed_71 : decode cX6_feed 71 = .ok (.l2i, 1) := by decide +kernel
theorem dX6_feed_72 : decode cX6_feed 72 = .ok (.iastore, 1) := by decide +kernel
theorem dX6_feed_73 : decode cX6_feed 73 = .ok (.aload_n 0, 1) := by decide +kernel
theorem dX6_feed_74 : decode cX6_feed 74 = .ok (.dup, 1) := by decide +kernel
theorem dX6_feed_75 : decode cX6_feed 75 = .ok (.getfield 13, 3) := by decide +kernel
theorem dX6_feed_78 : decode cX6_feed 78 = .ok (.iconst 1, 1) := by decide +kernel
theorem dX6_feed_79 : decode cX6_feed 79 = .ok (.iadd, 1) := by decide +kernel
theorem dX6_feed_80 : decode cX6_feed 80 = .ok (.putfield 13, 3) := by decide +kernel
theorem dX6_feed_83 : decode cX6_feed 83 = .ok (.iinc 4 (-8), 3) := by decide +kernel
theorem dX6_feed_86 : decode cX6_feed 86 = .ok (.goto (-36), 3) := by decide +kernel
theorem dX6_feed_21 : decode cX6_feed 21 = .ok (.aload_n 0, 1) := by decide +kernel
theorem dX6_feed_22 : decode cX6_feed 22 = .ok (.getfield 13, 3) := by decide +kernel
theorem dX6_feed_25 : decode cX6_feed 25 = .ok (.iload_n 3, 1) := by decide +kernel
theorem dX6_feed_26 : decode cX6_feed 26 = .ok (.iadd, 1) := by decide +kernel
theorem dX6_feed_27 : decode cX6_feed 27 = .ok (.bipush 60, 2) := by decide +kernel
theorem dX6_feed_29 : decode cX6_feed 29 = .ok (.if_icmp .le 13, 3) := by decide +kernel
theorem dX6_feed_42 : decode cX6_feed 42 = .ok (.bipush 8, 2) := by decide +kernel
theorem dX6_feed_44 : decode cX6_feed 44 = .ok (.iload_n 3, 1) := by decide +kernel
theorem dX6_feed_45 : decode cX6_feed 45 = .ok (.iconst 1, 1) := by decide +kernel
theorem dX6_feed_46 : decode cX6_feed 46 = .ok (.isub, 1) := by decide +kernel
theorem dX6_feed_47 : decode cX6_feed 47 = .ok (.imul, 1) := by decide +kernel
theorem dX6_feed_48 : decode cX6_feed 48 = .ok (.istore 4, 2) := by decide +kernel
theorem dX6_feed_89 : decode cX6_feed 89 = .ok (.aload_n 0, 1) := by decide +kernel
theorem dX6_feed_90 : decode cX6_feed 90 = .ok (.getfield 13, 3) := by decide +kernel
theorem dX6_feed_93 : decode cX6_feed 93 = .ok (.ireturn, 1) := by decide +kernel
theorem dX6_infer_0 : decode cX6_infer 0 = .ok (.aload_n 0, 1) := by decide +kernel
theorem dX6_infer_1 : decode cX6_infer 1 = .ok (.invokevirtual 66, 3) := by decide +kernel
theorem dX6_infer_4 : decode cX6_infer 4 = .ok (.aload_n 0, 1) := by decide +kernel
theorem dX6_infer_5 : decode cX6_infer 5 = .ok (.getfield 32, 3) := by decide +kernel
theorem dX6_infer_8 : decode cX6_infer 8 = .ok (.invokevirtual 69, 3) := by decide +kernel
theorem dX6_infer_11 : decode cX6_infer 11 = .ok (.istore_n 1, 1) := by decide +kernel
theorem dX6_infer_12 : decode cX6_infer 12 = .ok (.aload_n 0, 1) := by decide +kernel
theorem dX6_infer_13 : decode cX6_infer 13 = .ok (.aload_n 0, 1) := by decide +kernel
theorem dX6_infer_14 : decode cX6_infer 14 = .ok (.getfield 32, 3) := by decide +kernel
theorem dX6_infer_17 : decode cX6_infer 17 = .ok (.invokevirtual 73, 3) := by decide +kernel
theorem dX6_infer_20 : decode cX6_infer 20 = .ok (.putfield 17, 3) := by decide +kernel
theorem dX6_infer_23 : decode cX6_infer 23 = .ok (.aload_n 0, 1) := by decide +kernel
theorem dX6_infer_24 : decode cX6_infer 24 = .ok (.getfield 17, 3) := by decide +kernel
theorem dX6_infer_27 : decode cX6_infer 27 = .ok (.iconst (-1), 1) := by decide +kernel
theorem dX6_infer_28 : decode cX6_infer 28 = .ok (.if_icmp .eq 13, 3) := by decide +kernel
theorem dX6_infer_31 : decode cX6_infer 31 = .ok (.new 52, 3) := by decide +kernel
theorem dX6_infer_34 : decode cX6_infer 34 = .ok (.dup, 1) := by decide +kernel
theorem dX6_infer_35 : decode cX6_infer 35 = .ok (.ldc 75, 2) := by decide +kernel
theorem dX6_infer_37 : decode cX6_infer 37 = .ok (.invokespecial 56, 3) := by decide +kernel
theorem dX6_infer_40 : decode cX6_infer 40 = .ok (.athrow, 1) := by decide +kernel
theorem dX6_below_0 : decode cX6_below 0 = .ok (.aload_n 0, 1) := by decide +kernel
theorem dX6_below_1 : decode cX6_below 1 = .ok (.invokevirtual 66, 3) := by decide +kernel
theorem dX6_below_4 : decode cX6_below 4 = .ok (.aload_n 0, 1) := by decide +kernel
theorem dX6_below_5 : decode cX6_below 5 = .ok (.getfield 32, 3) := by decide +kernel
theorem dX6_below_8 : decode cX6_below 8 = .ok (.invokevirtual 91, 3) := by decide +kernel
theorem dX6_below_11 : decode cX6_below 11 = .ok (.istore_n 1, 1) := by decide +kernel
theorem dX6_below_12 : decode cX6_below 12 = .ok (.aload_n 0, 1) := by decide +kernel
theorem dX6_below_13 : decode cX6_below 13 = .ok (.getfield 32, 3) := by decide +kernel
theorem dX6_below_16 : decode cX6_below 16 = .ok (.invokevirtual 94, 3) := by decide +kernel
theorem dX6_below_19 : decode cX6_below 19 = .ok (.istore_n 2, 1) := by decide +kernel
theorem dX6_below_20 : decode cX6_below 20 = .ok (.aload_n 0, 1) := by decide +kernel
theorem dX6_below_21 : decode cX6_below 21 = .ok (.aload_n 0, 1) := by decide +kernel
theorem dX6_below_22 : decode cX6_below 22 = .ok (.getfield 32, 3) := by decide +kernel
theorem dX6_below_25 : decode cX6_below 25 = .ok (.invokevirtual 73, 3) := by decide +kernel
theorem dX6_below_28 : decode cX6_below 28 = .ok (.putfield 17, 3) := by decide +kernel
theorem dX6_below_31 : decode cX6_below 31 = .ok (.aload_n 0, 1) := by decide +kernel
theorem dX6_below_32 : decode cX6_below 32 = .ok (.getfield 17, 3) := by decide +kernel
theorem dX6_below_35 : decode cX6_below 35 = .ok (.iconst (-1), 1) := by decide +kernel
theorem dX6_below_36 : decode cX6_below 36 = .ok (.if_icmp .eq 13, 3) := by decide +kernel
theorem dX6_below_39 : decode cX6_below 39 = .ok (.new 52, 3) := by decide +kernel
theorem dX6_below_42 : decode cX6_below 42 = .ok (.dup, 1) := by decide +kernel
theorem dX6_below_43 : decode cX6_below 43 = .ok (.ldc 97, 2) := by decide +kernel
theorem dX6_below_45 : decode cX6_below 45 = .ok (.invokespecial 56, 3) := by decide +kernel
theorem dX6_below_48 : decode cX6_below 48 = .ok (.athrow, 1) := by decide +kernel
theorem dX6_out_0 : decode cX6_out 0 = .ok (.iload_n 1, 1) := by decide +kernel
theorem dX6_out_1 : decode cX6_out 1 = .ok (.ifCond .lt 14, 3) := by decide +kernel
theorem dX6_out_15 : decode cX6_out 15 = .ok (.new 106, 3) := by decide +kernel
theorem dX6_out_18 : decode cX6_out 18 = .ok (.dup, 1) := by decide +kernel
theorem dX6_out_19 : decode cX6_out 19 = .ok (.ldc 108, 2) := by decide +kernel
theorem dX6_out_21 : decode cX6_out 21 = .ok (.invokespecial 110, 3) := by decide +kernel
theorem dX6_out_24 : decode cX6_out 24 = .ok (.athrow, 1) := by decide +kernel
theorem dX6_out_4 : decode cX6_out 4 = .ok (.iload_n 1, 1) := by decide +kernel
theorem dX6_out_5 : decode cX6_out 5 = .ok (.aload_n 0, 1) := by decide +kernel
theorem dX6_out_6 : decode cX6_out 6 = .ok (.getfield 48, 3) := by decide +kernel
theorem dX6_out_9 : decode cX6_out 9 = .ok (.invokevirtual 103, 3) := by decide +kernel
theorem dX6_out_12 : decode cX6_out 12 = .ok (.if_icmp .lt 13, 3) := by decide +kernel
theorem dL_feed_0 : decode cL_feed 0 = .ok (.aload 4, 2) := by decide +kernel
theorem dL_feed_2 : decode cL_feed 2 = .ok (.iconst 0, 1) := by decide +kernel
theorem dL_feed_3 : decode cL_feed 3 = .ok (.aload_n 0, 1) := by decide +kernel
theorem dL_feed_4 : decode cL_feed 4 = .ok (.lload_n 1, 1) := by decide +kernel
theorem dL_feed_5 : decode cL_feed 5 = .ok (.iload_n 3, 1) := by decide +kernel
theorem dL_feed_6 : decode cL_feed 6 = .ok (.invokevirtual 7, 3) := by decide +kernel
theorem dL_feed_14 : decode cL_feed 14 = .ok (.astore 5, 2) := by decide +kernel
theorem dL_feed_16 : decode cL_feed 16 = .ok (.iconst 1, 1) := by decide +kernel
theorem dL_feed_17 : decode cL_feed 17 = .ok (.ireturn, 1) := by decide +kernel
theorem dL_feed_9 : decode cL_feed 9 = .ok (.i2l, 1) := by decide +kernel
theorem dL_feed_10 : decode cL_feed 10 = .ok (.lastore, 1) := by decide +kernel
theorem dL_feed_11 : decode cL_feed 11 = .ok (.goto 11, 3) := by decide +kernel
theorem dL_feed_22 : decode cL_feed 22 = .ok (.iconst 0, 1) := by decide +kernel
theorem dL_feed_23 : decode cL_feed 23 = .ok (.ireturn, 1) := by decide +kernel
theorem dL_infer_0 : decode cL_infer 0 = .ok (.aload_n 1, 1) := by decide +kernel
theorem dL_infer_1 : decode cL_infer 1 = .ok (.iconst 0, 1) := by decide +kernel
theorem dL_infer_2 : decode cL_infer 2 = .ok (.aload_n 0, 1) := by decide +kernel
theorem dL_infer_3 : decode cL_infer 3 = .ok (.invokevirtual 17, 3) := by decide +kernel
theorem dL_infer_18 : decode cL_infer 18 = .ok (.astore_n 2, 1) := by decide +kernel
theorem dL_infer_19 : decode cL_infer 19 = .ok (.iconst 1, 1) := by decide +kernel
theorem dL_infer_20 : decode cL_infer 20 = .ok (.ireturn, 1) := by decide +kernel
theorem dL_below_0 : decode cL_below 0 = .ok (.aload_n 1, 1) := by decide +kernel
theorem dL_below_1 : decode cL_below 1 = .ok (.iconst 0, 1) := by decide +kernel
theorem dL_below_2 : decode cL_below 2 = .ok (.aload_n 0, 1) := by decide +kernel
theorem dL_below_3 : decode cL_below 3 = .ok (.invokevirtual 21, 3) := by decide +kernel
theorem dL_below_18 : decode cL_below 18 = .ok (.astore_n 2, 1) := by decide +kernel
theorem dL_below_19 : decode cL_below 19 = .ok (.iconst 1, 1) := by decide +kernel
theorem dL_below_20 : decode cL_below 20 = .ok (.ireturn, 1) := by decide +kernel
theorem dL_out_0 : decode cL_out 0 = .ok (.aload_n 2, 1) := by decide +kernel
theorem dL_out_1 : decode cL_out 1 = .ok (.iconst 0, 1) := by decide +kernel
theorem dL_out_2 : decode cL_out 2 = .ok (.aload_n 0, 1) := by decide +kernel
theorem dL_out_3 : decode cL_out 3 = .ok (.iload_n 1, 1) := by decide +kernel
theorem dL_out_4 : decode cL_out 4 = .ok (.invokevirtual 24, 3) := by decide +kernel
theorem dL_out_12 : decode cL_out 12 = .ok (.astore_n 3, 1) := by decide +kernel
theorem dL_out_13 : decode cL_out 13 = .ok (.iconst 1, 1) := by decide +kernel
theorem dL_out_14 : decode cL_out 14 = .ok (.ireturn, 1) := by decide +kernel
end
section
set_option maxHeartbeats 4000000 in
set_option maxRecDepth 100000 in
/-- Context(nodes): two new rows -/
theorem c_X0_init (l : Launch) (dC : Nat → ClassId) (dI : Nat → Nat → Nat) (cI cZ cL : ClassId) (h0 : Nat) (sz : Nat) (n0 : Nat) : Met l yX0_init (wd yX0_init cX0_init 2 none) ({ frames := 1, cells := 2, slots := 8192, locals := 12 }) (va_Pc [.ref h0, .ref n0] (hp dC dI cI cZ cL sz [(h0, .inr (0, [.null, .null, .null, .int 0]))])) (va_Qv (fun (_ : Unit) => True) (fun (_ : Unit) t => ∃ q1 : Nat, ∃ q2 : Nat, va_P (dC, dI) vwCl [(h0, .inr (0, [.ref n0, .ref q1, .ref q2, .int 0])), (q1, .inl (cI, 4096, .inl zI)), (q2, .inl (cI, 4096, .inl zI))] t.heap ∧ va_D (va_A [(h0, .inr (0, [.null, .null, .null, .int 0]))] sz) [(h0, .inr (0, [.ref n0, .ref q1, .ref q2, .int 0])), (q1, .inl (cI, 4096, .inl zI)), (q2, .inl (cI, 4096, .inl zI))]) (va_A [(h0, .inr (0, [.null, .null, .null, .int 0]))] sz)) 2 8192 (va_A [(h0, .inr (0, [.null, .null, .null, .int 0]))] sz) := by
  refine Met.ofW (cc := cX0_init) (maxL := 2) (ret := none) (by decide) rfl ?_
  intro p e s m args below meth c s₁ B hml hv
  obtain ⟨rfl, hsz, hP, hK, hD0⟩ := hv
  have hx := B.exec
  have hb := B.bytes
  have hr := B.returns
  have hw9 := atoms_spec (ws := (wd yX0_init cX0_init 2 none)) B.pre
  have hg := gw_hts hw9
  have hown : s.vm.findClass RX0 = some m.cls := findClass_of_methodNamed B.named
  have hlocks := B.notSynchronized
  have hin : meth.name = "<init>" := (name_of_methodNamed B.named B.method).1
  subst hsz
  have hD := hD0.self (sz := s.heap.size)
  generalize hAe : va_A [(h0, .inr (0, [.null, .null, .null, .int 0]))] s.heap.size = A at hD ⊢
  have hA : ∀ q : Nat, s.heap.size ≤ q → A q := fun q h => by rw [← hAe]; exact Or.inr h
  have hS : va_S A s.heap s.heap [] := va_S.rf
  have hl := lv_entry ([.ref h0, .ref n0]) (n := 2) (Nat.le_of_ble_eq_true rfl)
  rw [lg_entry_eq]
  generalize (lg_sl ([.ref h0, .ref n0]) ++ List.replicate (2 - (lg_sl ([.ref h0, .ref n0])).length) Slot.unset).toArray = ls at hl ⊢
  have hl : lv_has ls 2 [(0, .ref h0), (1, .ref n0)] := hl
  refine lv_aload_n hx hb dX0_init_0 rfl (lv_at hl 0 rfl) ?_
  refine W.objInit hx hb hown (hg _ k_8) (hg _ k_9) (hg _ k_10) rfl (by rw [hml]; exact hl.1) rfl dX0_init_1 (Nat.le_of_ble_eq_true rfl) (Nat.le_of_ble_eq_true rfl) ?_
  refine W.eq (g2 := F0 m 4 ls []) rfl ?_
  refine lv_aload_n hx hb dX0_init_4 rfl (lv_at hl 0 rfl) ?_
  refine lv_sipush (v := 4096) hx hb dX0_init_5 (by decide) ?_
  refine va_newa (atype := .int) (ty := .int) (N' := 4096) (a0 := (4096, .inl zI)) hx hb (hg _ k_11) rfl hK hP hD hS hA (fun _ => rfl) (by decide) (by decide) (by decide) (Nat.le_of_ble_eq_true rfl) (Nat.le_of_ble_eq_true rfl) dX0_init_8 (fun q1 cA H hK1 hP hD hS => ?_)
  obtain rfl := ty_int hK1
  have hP : va_P (dC, dI) vwCl [(h0, .inr (0, [.null, .null, .null, .int 0])), (q1, .inl (cI, 4096, .inl zI))] H := hP
  have hD : va_D A [(h0, .inr (0, [.null, .null, .null, .int 0])), (q1, .inl (cI, 4096, .inl zI))] := hD
  refine W.widen (k := 1) (n := 4096) (Nat.le_of_ble_eq_true rfl) (Nat.le_of_ble_eq_true rfl) ?_
  refine va_putF (D := (dC, dI)) (ci := 0) (v := .ref q1) (ty := .array .int) (C := RX0) (T := TX0) (N := 4) hx hb hg i_X0 tyX0 tyX0_ok nmX0 hown hK hP hD hS 0 rfl rfl 1 (by decide) (hg _ k_12) (fun _ h9 => h9) rfl hin rfl (by decide +kernel) rfl rfl (Nat.le_of_ble_eq_true rfl) dX0_init_10 (fun H locs hP hD hS => ?_)
  have hP : va_P (dC, dI) vwCl [(h0, .inr (0, [.null, .ref q1, .null, .int 0])), (q1, .inl (cI, 4096, .inl zI))] H := hP
  have hD : va_D A [(h0, .inr (0, [.null, .ref q1, .null, .int 0])), (q1, .inl (cI, 4096, .inl zI))] := hD
  refine lv_aload_n hx hb dX0_init_13 rfl (lv_at hl 0 rfl) ?_
  refine lv_sipush (v := 4096) hx hb dX0_init_14 (by decide) ?_
  refine va_newa (atype := .int) (ty := .int) (N' := 4096) (a0 := (4096, .inl zI)) hx hb (hg _ k_11) rfl hK hP hD hS hA (fun _ => rfl) (by decide) (by decide) (by decide) (Nat.le_of_ble_eq_true rfl) (Nat.le_of_ble_eq_true rfl) dX0_init_17 (fun q2 cA H hK1 hP hD hS => ?_)
  obtain rfl := ty_int hK1
  have hP : va_P (dC, dI) vwCl [(h0, .inr (0, [.null, .ref q1, .null, .int 0])), (q1, .inl (cI, 4096, .inl zI)), (q2, .inl (cI, 4096, .inl zI))] H := hP
  have hD : va_D A [(h0, .inr (0, [.null, .ref q1, .null, .int 0])), (q1, .inl (cI, 4096, .inl zI)), (q2, .inl (cI, 4096, .inl zI))] := hD
  refine W.widen (k := 2) (n := 8192) (Nat.le_of_ble_eq_true rfl) (Nat.le_of_ble_eq_true rfl) ?_
  refine va_putF (D := (dC, dI)) (ci := 0) (v := .ref q2) (ty := .array .int) (C := RX0) (T := TX0) (N := 4) hx hb hg i_X0 tyX0 tyX0_ok nmX0 hown hK hP hD hS 0 rfl rfl 2 (by decide) (hg _ k_13) (fun _ h9 => h9) rfl hin rfl (by decide +kernel) rfl rfl (Nat.le_of_ble_eq_true rfl) dX0_init_19 (fun H locs hP hD hS => ?_)
  have hP : va_P (dC, dI) vwCl [(h0, .inr (0, [.null, .ref q1, .ref q2, .int 0])), (q1, .inl (cI, 4096, .inl zI)), (q2, .inl (cI, 4096, .inl zI))] H := hP
  have hD : va_D A [(h0, .inr (0, [.null, .ref q1, .ref q2, .int 0])), (q1, .inl (cI, 4096, .inl zI)), (q2, .inl (cI, 4096, .inl zI))] := hD
  refine lv_aload_n hx hb dX0_init_22 rfl (lv_at hl 0 rfl) ?_
  refine lv_iconst (v := 0) hx hb dX0_init_23 (by decide) ?_
  refine va_put (D := (dC, dI)) (ci := 0) (v := .int 0) (ty := .int) (C := RX0) (T := TX0) (N := 4) hx hb hg i_X0 tyX0 tyX0_ok nmX0 hown hK hP hD hS 0 rfl rfl 3 (by decide) (hg _ k_14) (fun _ h9 => h9) rfl (by decide +kernel) rfl rfl (Nat.le_of_ble_eq_true rfl) dX0_init_24 (fun H locs hP hD hS => ?_)
  have hP : va_P (dC, dI) vwCl [(h0, .inr (0, [.null, .ref q1, .ref q2, .int 0])), (q1, .inl (cI, 4096, .inl zI)), (q2, .inl (cI, 4096, .inl zI))] H := hP
  have hD : va_D A [(h0, .inr (0, [.null, .ref q1, .ref q2, .int 0])), (q1, .inl (cI, 4096, .inl zI)), (q2, .inl (cI, 4096, .inl zI))] := hD
  refine lv_aload_n hx hb dX0_init_27 rfl (lv_at hl 0 rfl) ?_
  refine lv_aload_n hx hb dX0_init_28 rfl (lv_at hl 1 rfl) ?_
  refine va_putF (D := (dC, dI)) (ci := 0) (v := .ref n0) (ty := .object "TypeBench$Nodes") (C := RX0) (T := TX0) (N := 4) hx hb hg i_X0 tyX0 tyX0_ok nmX0 hown hK hP hD hS 0 rfl rfl 0 (by decide) (hg _ k_15) (fun _ h9 => h9) rfl hin rfl (by decide +kernel) rfl rfl (Nat.le_of_ble_eq_true rfl) dX0_init_29 (fun H locs hP hD hS => ?_)
  have hP : va_P (dC, dI) vwCl [(h0, .inr (0, [.ref n0, .ref q1, .ref q2, .int 0])), (q1, .inl (cI, 4096, .inl zI)), (q2, .inl (cI, 4096, .inl zI))] H := hP
  have hD : va_D A [(h0, .inr (0, [.ref n0, .ref q1, .ref q2, .int 0])), (q1, .inl (cI, 4096, .inl zI)), (q2, .inl (cI, 4096, .inl zI))] := hD
  have hP9 := hP.sub (ws' := [(h0, .inr (0, [.ref n0, .ref q1, .ref q2, .int 0])), (q1, .inl (cI, 4096, .inl zI)), (q2, .inl (cI, 4096, .inl zI))]) [0, 1, 2] rfl
  have hD9 := hD.sub (ws' := [(h0, .inr (0, [.ref n0, .ref q1, .ref q2, .int 0])), (q1, .inl (cI, 4096, .inl zI)), (q2, .inl (cI, 4096, .inl zI))]) [0, 1, 2] (by decide) rfl
  refine W.widen (k := 2) (n := 8192) (Nat.le_of_ble_eq_true rfl) (Nat.le_of_ble_eq_true rfl) ?_
  exact W.vret hx hb hr (fun t ht hW => ⟨⟨(), rfl, trivial, q1, q2, by rw [ht]; exact hP9, hD9⟩, hS.F ht⟩) hS.2.2 dX0_init_32

set_option maxHeartbeats 4000000 in
set_option maxRecDepth 100000 in
/-- Search(nodes, context): two new rows -/
theorem c_X5_init (l : Launch) (dC : Nat → ClassId) (dI : Nat → Nat → Nat) (cI cZ cL : ClassId) (h0 : Nat) (sz : Nat) (n0 x0 : Nat) : Met l yX5_init (wd yX5_init cX5_init 3 none) ({ frames := 1, cells := 2, slots := 8192, locals := 12 }) (va_Pc [.ref h0, .ref n0, .ref x0] (hp dC dI cI cZ cL sz [(h0, .inr (5, [.null, .null, .null, .null, .int 0, .int 0]))])) (va_Qv (fun (_ : Unit) => True) (fun (_ : Unit) t => ∃ q1 : Nat, ∃ q2 : Nat, va_P (dC, dI) vwCl [(h0, .inr (5, [.ref n0, .ref x0, .ref q1, .ref q2, .int 0, .int 0])), (q1, .inl (cI, 4096, .inl zI)), (q2, .inl (cI, 4096, .inl zI))] t.heap ∧ va_D (va_A [(h0, .inr (5, [.null, .null, .null, .null, .int 0, .int 0]))] sz) [(h0, .inr (5, [.ref n0, .ref x0, .ref q1, .ref q2, .int 0, .int 0])), (q1, .inl (cI, 4096, .inl zI)), (q2, .inl (cI, 4096, .inl zI))]) (va_A [(h0, .inr (5, [.null, .null, .null, .null, .int 0, .int 0]))] sz)) 2 8192 (va_A [(h0, .inr (5, [.null, .null, .null, .null, .int 0, .int 0]))] sz) := by
  refine Met.ofW (cc := cX5_init) (maxL := 3) (ret := none) (by decide) rfl ?_
  intro p e s m args below meth c s₁ B hml hv
  obtain ⟨rfl, hsz, hP, hK, hD0⟩ := hv
  have hx := B.exec
  have hb := B.bytes
  have hr := B.returns
  have hw9 := atoms_spec (ws := (wd yX5_init cX5_init 3 none)) B.pre
  have hg := gw_hts hw9
  have hown : s.vm.findClass RX5 = some m.cls := findClass_of_methodNamed B.named
  have hlocks := B.notSynchronized
  have hin : meth.name = "<init>" := (name_of_methodNamed B.named B.method).1
  subst hsz
  have hD := hD0.self (sz := s.heap.size)
  generalize hAe : va_A [(h0, .inr (5, [.null, .null, .null, .null, .int 0, .int 0]))] s.heap.size = A at hD ⊢
  have hA : ∀ q : Nat, s.heap.size ≤ q → A q := fun q h => by rw [← hAe]; exact Or.inr h
  have hS : va_S A s.heap s.heap [] := va_S.rf
  have hl := lv_entry ([.ref h0, .ref n0, .ref x0]) (n := 3) (Nat.le_of_ble_eq_true rfl)
  rw [lg_entry_eq]
  generalize (lg_sl ([.ref h0, .ref n0, .ref x0]) ++ List.replicate (3 - (lg_sl ([.ref h0, .ref n0, .ref x0])).length) Slot.unset).toArray = ls at hl ⊢
  have hl : lv_has ls 3 [(0, .ref h0), (1, .ref n0), (2, .ref x0)] := hl
  refine lv_aload_n hx hb dX5_init_0 rfl (lv_at hl 0 rfl) ?_
  refine W.objInit hx hb hown (hg _ k_16) (hg _ k_9) (hg _ k_10) rfl (by rw [hml]; exact hl.1) rfl dX5_init_1 (Nat.le_of_ble_eq_true rfl) (Nat.le_of_ble_eq_true rfl) ?_
  refine W.eq (g2 := F0 m 4 ls []) rfl ?_
  refine lv_aload_n hx hb dX5_init_4 rfl (lv_at hl 0 rfl) ?_
  refine lv_sipush (v := 4096) hx hb dX5_init_5 (by decide) ?_
  refine va_newa (atype := .int) (ty := .int) (N' := 4096) (a0 := (4096, .inl zI)) hx hb (hg _ k_11) rfl hK hP hD hS hA (fun _ => rfl) (by decide) (by decide) (by decide) (Nat.le_of_ble_eq_true rfl) (Nat.le_of_ble_eq_true rfl) dX5_init_8 (fun q1 cA H hK1 hP hD hS => ?_)
  obtain rfl := ty_int hK1
  have hP : va_P (dC, dI) vwCl [(h0, .inr (5, [.null, .null, .null, .null, .int 0, .int 0])), (q1, .inl (cI, 4096, .inl zI))] H := hP
  have hD : va_D A [(h0, .inr (5, [.null, .null, .null, .null, .int 0, .int 0])), (q1, .inl (cI, 4096, .inl zI))] := hD
  refine W.widen (k := 1) (n := 4096) (Nat.le_of_ble_eq_true rfl) (Nat.le_of_ble_eq_true rfl) ?_
  refine va_putF (D := (dC, dI)) (ci := 5) (v := .ref q1) (ty := .array .int) (C := RX5) (T := TX5) (N := 6) hx hb hg i_X5 tyX5 tyX5_ok nmX5 hown hK hP hD hS 0 rfl rfl 2 (by decide) (hg _ k_17) (fun _ h9 => h9) rfl hin rfl (by decide +kernel) rfl rfl (Nat.le_of_ble_eq_true rfl) dX5_init_10 (fun H locs hP hD hS => ?_)
  have hP : va_P (dC, dI) vwCl [(h0, .inr (5, [.null, .null, .ref q1, .null, .int 0, .int 0])), (q1, .inl (cI, 4096, .inl zI))] H := hP
  have hD : va_D A [(h0, .inr (5, [.null, .null, .ref q1, .null, .int 0, .int 0])), (q1, .inl (cI, 4096, .inl zI))] := hD
  refine lv_aload_n hx hb dX5_init_13 rfl (lv_at hl 0 rfl) ?_
  refine lv_sipush (v := 4096) hx hb dX5_init_14 (by decide) ?_
  refine va_newa (atype := .int) (ty := .int) (N' := 4096) (a0 := (4096, .inl zI)) hx hb (hg _ k_11) rfl hK hP hD hS hA (fun _ => rfl) (by decide) (by decide) (by decide) (Nat.le_of_ble_eq_true rfl) (Nat.le_of_ble_eq_true rfl) dX5_init_17 (fun q2 cA H hK1 hP hD hS => ?_)
  obtain rfl := ty_int hK1
  have hP : va_P (dC, dI) vwCl [(h0, .inr (5, [.null, .null, .ref q1, .null, .int 0, .int 0])), (q1, .inl (cI, 4096, .inl zI)), (q2, .inl (cI, 4096, .inl zI))] H := hP
  have hD : va_D A [(h0, .inr (5, [.null, .null, .ref q1, .null, .int 0, .int 0])), (q1, .inl (cI, 4096, .inl zI)), (q2, .inl (cI, 4096, .inl zI))] := hD
  refine W.widen (k := 2) (n := 8192) (Nat.le_of_ble_eq_true rfl) (Nat.le_of_ble_eq_true rfl) ?_
  refine va_putF (D := (dC, dI)) (ci := 5) (v := .ref q2) (ty := .array .int) (C := RX5) (T := TX5) (N := 6) hx hb hg i_X5 tyX5 tyX5_ok nmX5 hown hK hP hD hS 0 rfl rfl 3 (by decide) (hg _ k_18) (fun _ h9 => h9) rfl hin rfl (by decide +kernel) rfl rfl (Nat.le_of_ble_eq_true rfl) dX5_init_19 (fun H locs hP hD hS => ?_)
  have hP : va_P (dC, dI) vwCl [(h0, .inr (5, [.null, .null, .ref q1, .ref q2, .int 0, .int 0])), (q1, .inl (cI, 4096, .inl zI)), (q2, .inl (cI, 4096, .inl zI))] H := hP
  have hD : va_D A [(h0, .inr (5, [.null, .null, .ref q1, .ref q2, .int 0, .int 0])), (q1, .inl (cI, 4096, .inl zI)), (q2, .inl (cI, 4096, .inl zI))] := hD
  refine lv_aload_n hx hb dX5_init_22 rfl (lv_at hl 0 rfl) ?_
  refine lv_iconst (v := 0) hx hb dX5_init_23 (by decide) ?_
  refine va_put (D := (dC, dI)) (ci := 5) (v := .int 0) (ty := .int) (C := RX5) (T := TX5) (N := 6) hx hb hg i_X5 tyX5 tyX5_ok nmX5 hown hK hP hD hS 0 rfl rfl 4 (by decide) (hg _ k_19) (fun _ h9 => h9) rfl (by decide +kernel) rfl rfl (Nat.le_of_ble_eq_true rfl) dX5_init_24 (fun H locs hP hD hS => ?_)
  have hP : va_P (dC, dI) vwCl [(h0, .inr (5, [.null, .null, .ref q1, .ref q2, .int 0, .int 0])), (q1, .inl (cI, 4096, .inl zI)), (q2, .inl (cI, 4096, .inl zI))] H := hP
  have hD : va_D A [(h0, .inr (5, [.null, .null, .ref q1, .ref q2, .int 0, .int 0])), (q1, .inl (cI, 4096, .inl zI)), (q2, .inl (cI, 4096, .inl zI))] := hD
  refine lv_aload_n hx hb dX5_init_27 rfl (lv_at hl 0 rfl) ?_
  refine lv_iconst (v := 0) hx hb dX5_init_28 (by decide) ?_
  refine va_put (D := (dC, dI)) (ci := 5) (v := .int 0) (ty := .int) (C := RX5) (T := TX5) (N := 6) hx hb hg i_X5 tyX5 tyX5_ok nmX5 hown hK hP hD hS 0 rfl rfl 5 (by decide) (hg _ k_20) (fun _ h9 => h9) rfl (by decide +kernel) rfl rfl (Nat.le_of_ble_eq_true rfl) dX5_init_29 (fun H locs hP hD hS => ?_)
  have hP : va_P (dC, dI) vwCl [(h0, .inr (5, [.null, .null, .ref q1, .ref q2, .int 0, .int 0])), (q1, .inl (cI, 4096, .inl zI)), (q2, .inl (cI, 4096, .inl zI))] H := hP
  have hD : va_D A [(h0, .inr (5, [.null, .null, .ref q1, .ref q2, .int 0, .int 0])), (q1, .inl (cI, 4096, .inl zI)), (q2, .inl (cI, 4096, .inl zI))] := hD
  refine lv_aload_n hx hb dX5_init_32 rfl (lv_at hl 0 rfl) ?_
  refine lv_aload_n hx hb dX5_init_33 rfl (lv_at hl 1 rfl) ?_
  refine va_putF (D := (dC, dI)) (ci := 5) (v := .ref n0) (ty := .object "TypeBench$Nodes") (C := RX5) (T := TX5) (N := 6) hx hb hg i_X5 tyX5 tyX5_ok nmX5 hown hK hP hD hS 0 rfl rfl 0 (by decide) (hg _ k_21) (fun _ h9 => h9) rfl hin rfl (by decide +kernel) rfl rfl (Nat.le_of_ble_eq_true rfl) dX5_init_34 (fun H locs hP hD hS => ?_)
  have hP : va_P (dC, dI) vwCl [(h0, .inr (5, [.ref n0, .null, .ref q1, .ref q2, .int 0, .int 0])), (q1, .inl (cI, 4096, .inl zI)), (q2, .inl (cI, 4096, .inl zI))] H := hP
  have hD : va_D A [(h0, .inr (5, [.ref n0, .null, .ref q1, .ref q2, .int 0, .int 0])), (q1, .inl (cI, 4096, .inl zI)), (q2, .inl (cI, 4096, .inl zI))] := hD
  refine lv_aload_n hx hb dX5_init_37 rfl (lv_at hl 0 rfl) ?_
  refine lv_aload_n hx hb dX5_init_38 rfl (lv_at hl 2 rfl) ?_
  refine va_putF (D := (dC, dI)) (ci := 5) (v := .ref x0) (ty := .object "TypeBench$Context") (C := RX5) (T := TX5) (N := 6) hx hb hg i_X5 tyX5 tyX5_ok nmX5 hown hK hP hD hS 0 rfl rfl 1 (by decide) (hg _ k_22) (fun _ h9 => h9) rfl hin rfl (by decide +kernel) rfl rfl (Nat.le_of_ble_eq_true rfl) dX5_init_39 (fun H locs hP hD hS => ?_)
  have hP : va_P (dC, dI) vwCl [(h0, .inr (5, [.ref n0, .ref x0, .ref q1, .ref q2, .int 0, .int 0])), (q1, .inl (cI, 4096, .inl zI)), (q2, .inl (cI, 4096, .inl zI))] H := hP
  have hD : va_D A [(h0, .inr (5, [.ref n0, .ref x0, .ref q1, .ref q2, .int 0, .int 0])), (q1, .inl (cI, 4096, .inl zI)), (q2, .inl (cI, 4096, .inl zI))] := hD
  have hP9 := hP.sub (ws' := [(h0, .inr (5, [.ref n0, .ref x0, .ref q1, .ref q2, .int 0, .int 0])), (q1, .inl (cI, 4096, .inl zI)), (q2, .inl (cI, 4096, .inl zI))]) [0, 1, 2] rfl
  have hD9 := hD.sub (ws' := [(h0, .inr (5, [.ref n0, .ref x0, .ref q1, .ref q2, .int 0, .int 0])), (q1, .inl (cI, 4096, .inl zI)), (q2, .inl (cI, 4096, .inl zI))]) [0, 1, 2] (by decide) rfl
  refine W.widen (k := 2) (n := 8192) (Nat.le_of_ble_eq_true rfl) (Nat.le_of_ble_eq_true rfl) ?_
  exact W.vret hx hb hr (fun t ht hW => ⟨⟨(), rfl, trivial, q1, q2, by rw [ht]; exact hP9, hD9⟩, hS.F ht⟩) hS.2.2 dX5_init_42

set_option maxHeartbeats 4000000 in
set_option maxRecDepth 100000 in
/-- Judge(nodes): three rows, a Context, a Search -/
theorem c_X1_init (l : Launch) (dC : Nat → ClassId) (dI : Nat → Nat → Nat) (cI cZ cL : ClassId) (h0 : Nat) (sz : Nat) (n0 : Nat) : Met l yX1_init (wd yX1_init cX1_init 2 none) ({ frames := 2, cells := 9, slots := 19466, locals := 34 }) (va_Pc [.ref h0, .ref n0] (hp dC dI cI cZ cL sz [(h0, .inr (1, [.null, .null, .null, .null, .null, .null, .int 0, .int 0, .int 0, .int 0, .int 0]))])) (va_Qv (fun (_ : Unit) => True) (fun (_ : Unit) t => ∃ q1 : Nat, ∃ q2 : Nat, ∃ q3 : Nat, ∃ q4 : Nat, ∃ q5 : Nat, ∃ q6 : Nat, ∃ q7 : Nat, ∃ q8 : Nat, ∃ q9 : Nat, va_P (dC, dI) vwCl [(h0, .inr (1, [.ref n0, .ref q4, .ref q7, .ref q1, .ref q2, .ref q3, .int 0, .int 0, .int (-1), .int 0, .int 0])), (q1, .inl (cI, 1024, .inl zI)), (q2, .inl (cI, 1024, .inl zI)), (q3, .inl (cI, 1024, .inl zI)), (q4, .inr (0, [.ref n0, .ref q5, .ref q6, .int 0])), (q5, .inl (cI, 4096, .inl zI)), (q6, .inl (cI, 4096, .inl zI)), (q7, .inr (5, [.ref n0, .ref q4, .ref q8, .ref q9, .int 0, .int 0])), (q8, .inl (cI, 4096, .inl zI)), (q9, .inl (cI, 4096, .inl zI))] t.heap ∧ va_D (va_A [(h0, .inr (1, [.null, .null, .null, .null, .null, .null, .int 0, .int 0, .int 0, .int 0, .int 0]))] sz) [(h0, .inr (1, [.ref n0, .ref q4, .ref q7, .ref q1, .ref q2, .ref q3, .int 0, .int 0, .int (-1), .int 0, .int 0])), (q1, .inl (cI, 1024, .inl zI)), (q2, .inl (cI, 1024, .inl zI)), (q3, .inl (cI, 1024, .inl zI)), (q4, .inr (0, [.ref n0, .ref q5, .ref q6, .int 0])), (q5, .inl (cI, 4096, .inl zI)), (q6, .inl (cI, 4096, .inl zI)), (q7, .inr (5, [.ref n0, .ref q4, .ref q8, .ref q9, .int 0, .int 0])), (q8, .inl (cI, 4096, .inl zI)), (q9, .inl (cI, 4096, .inl zI))]) (va_A [(h0, .inr (1, [.null, .null, .null, .null, .null, .null, .int 0, .int 0, .int 0, .int 0, .int 0]))] sz)) 9 19466 (va_A [(h0, .inr (1, [.null, .null, .null, .null, .null, .null, .int 0, .int 0, .int 0, .int 0, .int 0]))] sz) := by
  refine Met.ofW (cc := cX1_init) (maxL := 2) (ret := none) (by decide) rfl ?_
  intro p e s m args below meth c s₁ B hml hv
  obtain ⟨rfl, hsz, hP, hK, hD0⟩ := hv
  have hx := B.exec
  have hb := B.bytes
  have hr := B.returns
  have hw9 := atoms_spec (ws := (wd yX1_init cX1_init 2 none)) B.pre
  have hg := gw_hts hw9
  have hown : s.vm.findClass RX1 = some m.cls := findClass_of_methodNamed B.named
  have hlocks := B.notSynchronized
  have hin : meth.name = "<init>" := (name_of_methodNamed B.named B.method).1
  subst hsz
  have hD := hD0.self (sz := s.heap.size)
  generalize hAe : va_A [(h0, .inr (1, [.null, .null, .null, .null, .null, .null, .int 0, .int 0, .int 0, .int 0, .int 0]))] s.heap.size = A at hD ⊢
  have hA : ∀ q : Nat, s.heap.size ≤ q → A q := fun q h => by rw [← hAe]; exact Or.inr h
  have hS : va_S A s.heap s.heap [] := va_S.rf
  have hl := lv_entry ([.ref h0, .ref n0]) (n := 2) (Nat.le_of_ble_eq_true rfl)
  rw [lg_entry_eq]
  generalize (lg_sl ([.ref h0, .ref n0]) ++ List.replicate (2 - (lg_sl ([.ref h0, .ref n0])).length) Slot.unset).toArray = ls at hl ⊢
  have hl : lv_has ls 2 [(0, .ref h0), (1, .ref n0)] := hl
  refine lv_aload_n hx hb dX1_init_0 rfl (lv_at hl 0 rfl) ?_
  refine W.objInit hx hb hown (hg _ k_23) (hg _ k_9) (hg _ k_10) rfl (by rw [hml]; exact hl.1) rfl dX1_init_1 (Nat.le_of_ble_eq_true rfl) (Nat.le_of_ble_eq_true rfl) ?_
  refine W.eq (g2 := F0 m 4 ls []) rfl ?_
  refine lv_aload_n hx hb dX1_init_4 rfl (lv_at hl 0 rfl) ?_
  refine lv_sipush (v := 1024) hx hb dX1_init_5 (by decide) ?_
  refine va_newa (atype := .int) (ty := .int) (N' := 1024) (a0 := (1024, .inl zI)) hx hb (hg _ k_11) rfl hK hP hD hS hA (fun _ => rfl) (by decide) (by decide) (by decide) (Nat.le_of_ble_eq_true rfl) (Nat.le_of_ble_eq_true rfl) dX1_init_8 (fun q1 cA H hK1 hP hD hS => ?_)
  obtain rfl := ty_int hK1
  have hP : va_P (dC, dI) vwCl [(h0, .inr (1, [.null, .null, .null, .null, .null, .null, .int 0, .int 0, .int 0, .int 0, .int 0])), (q1, .inl (cI, 1024, .inl zI))] H := hP
  have hD : va_D A [(h0, .inr (1, [.null, .null, .null, .null, .null, .null, .int 0, .int 0, .int 0, .int 0, .int 0])), (q1, .inl (cI, 1024, .inl zI))] := hD
  refine W.widen (k := 1) (n := 1024) (Nat.le_of_ble_eq_true rfl) (Nat.le_of_ble_eq_true rfl) ?_
  refine va_putF (D := (dC, dI)) (ci := 1) (v := .ref q1) (ty := .array .int) (C := RX1) (T := TX1) (N := 11) hx hb hg i_X1 tyX1 tyX1_ok nmX1 hown hK hP hD hS 0 rfl rfl 3 (by decide) (hg _ k_24) (fun _ h9 => h9) rfl hin rfl (by decide +kernel) rfl rfl (Nat.le_of_ble_eq_true rfl) dX1_init_10 (fun H locs hP hD hS => ?_)
  have hP : va_P (dC, dI) vwCl [(h0, .inr (1, [.null, .null, .null, .ref q1, .null, .null, .int 0, .int 0, .int 0, .int 0, .int 0])), (q1, .inl (cI, 1024, .inl zI))] H := hP
  have hD : va_D A [(h0, .inr (1, [.null, .null, .null, .ref q1, .null, .null, .int 0, .int 0, .int 0, .int 0, .int 0])), (q1, .inl (cI, 1024, .inl zI))] := hD
  refine lv_aload_n hx hb dX1_init_13 rfl (lv_at hl 0 rfl) ?_
  refine lv_sipush (v := 1024) hx hb dX1_init_14 (by decide) ?_
  refine va_newa (atype := .int) (ty := .int) (N' := 1024) (a0 := (1024, .inl zI)) hx hb (hg _ k_11) rfl hK hP hD hS hA (fun _ => rfl) (by decide) (by decide) (by decide) (Nat.le_of_ble_eq_true rfl) (Nat.le_of_ble_eq_true rfl) dX1_init_17 (fun q2 cA H hK1 hP hD hS => ?_)
  obtain rfl := ty_int hK1
  have hP : va_P (dC, dI) vwCl [(h0, .inr (1, [.null, .null, .null, .ref q1, .null, .null, .int 0, .int 0, .int 0, .int 0, .int 0])), (q1, .inl (cI, 1024, .inl zI)), (q2, .inl (cI, 1024, .inl zI))] H := hP
  have hD : va_D A [(h0, .inr (1, [.null, .null, .null, .ref q1, .null, .null, .int 0, .int 0, .int 0, .int 0, .int 0])), (q1, .inl (cI, 1024, .inl zI)), (q2, .inl (cI, 1024, .inl zI))] := hD
  refine W.widen (k := 2) (n := 2048) (Nat.le_of_ble_eq_true rfl) (Nat.le_of_ble_eq_true rfl) ?_
  refine va_putF (D := (dC, dI)) (ci := 1) (v := .ref q2) (ty := .array .int) (C := RX1) (T := TX1) (N := 11) hx hb hg i_X1 tyX1 tyX1_ok nmX1 hown hK hP hD hS 0 rfl rfl 4 (by decide) (hg _ k_25) (fun _ h9 => h9) rfl hin rfl (by decide +kernel) rfl rfl (Nat.le_of_ble_eq_true rfl) dX1_init_19 (fun H locs hP hD hS => ?_)
  have hP : va_P (dC, dI) vwCl [(h0, .inr (1, [.null, .null, .null, .ref q1, .ref q2, .null, .int 0, .int 0, .int 0, .int 0, .int 0])), (q1, .inl (cI, 1024, .inl zI)), (q2, .inl (cI, 1024, .inl zI))] H := hP
  have hD : va_D A [(h0, .inr (1, [.null, .null, .null, .ref q1, .ref q2, .null, .int 0, .int 0, .int 0, .int 0, .int 0])), (q1, .inl (cI, 1024, .inl zI)), (q2, .inl (cI, 1024, .inl zI))] := hD
  refine lv_aload_n hx hb dX1_init_22 rfl (lv_at hl 0 rfl) ?_
  refine lv_sipush (v := 1024) hx hb dX1_init_23 (by decide) ?_
  refine va_newa (atype := .int) (ty := .int) (N' := 1024) (a0 := (1024, .inl zI)) hx hb (hg _ k_11) rfl hK hP hD hS hA (fun _ => rfl) (by decide) (by decide) (by decide) (Nat.le_of_ble_eq_true rfl) (Nat.le_of_ble_eq_true rfl) dX1_init_26 (fun q3 cA H hK1 hP hD hS => ?_)
  obtain rfl := ty_int hK1
  have hP : va_P (dC, dI) vwCl [(h0, .inr (1, [.null, .null, .null, .ref q1, .ref q2, .null, .int 0, .int 0, .int 0, .int 0, .int 0])), (q1, .inl (cI, 1024, .inl zI)), (q2, .inl (cI, 1024, .inl zI)), (q3, .inl (cI, 1024, .inl zI))] H := hP
  have hD : va_D A [(h0, .inr (1, [.null, .null, .null, .ref q1, .ref q2, .null, .int 0, .int 0, .int 0, .int 0, .int 0])), (q1, .inl (cI, 1024, .inl zI)), (q2, .inl (cI, 1024, .inl zI)), (q3, .inl (cI, 1024, .inl zI))] := hD
  refine W.widen (k := 3) (n := 3072) (Nat.le_of_ble_eq_true rfl) (Nat.le_of_ble_eq_true rfl) ?_
  refine va_putF (D := (dC, dI)) (ci := 1) (v := .ref q3) (ty := .array .int) (C := RX1) (T := TX1) (N := 11) hx hb hg i_X1 tyX1 tyX1_ok nmX1 hown hK hP hD hS 0 rfl rfl 5 (by decide) (hg _ k_26) (fun _ h9 => h9) rfl hin rfl (by decide +kernel) rfl rfl (Nat.le_of_ble_eq_true rfl) dX1_init_28 (fun H locs hP hD hS => ?_)
  have hP : va_P (dC, dI) vwCl [(h0, .inr (1, [.null, .null, .null, .ref q1, .ref q2, .ref q3, .int 0, .int 0, .int 0, .int 0, .int 0])), (q1, .inl (cI, 1024, .inl zI)), (q2, .inl (cI, 1024, .inl zI)), (q3, .inl (cI, 1024, .inl zI))] H := hP
  have hD : va_D A [(h0, .inr (1, [.null, .null, .null, .ref q1, .ref q2, .ref q3, .int 0, .int 0, .int 0, .int 0, .int 0])), (q1, .inl (cI, 1024, .inl zI)), (q2, .inl (cI, 1024, .inl zI)), (q3, .inl (cI, 1024, .inl zI))] := hD
  refine lv_aload_n hx hb dX1_init_31 rfl (lv_at hl 0 rfl) ?_
  refine lv_iconst (v := 0) hx hb dX1_init_32 (by decide) ?_
  refine va_put (D := (dC, dI)) (ci := 1) (v := .int 0) (ty := .int) (C := RX1) (T := TX1) (N := 11) hx hb hg i_X1 tyX1 tyX1_ok nmX1 hown hK hP hD hS 0 rfl rfl 6 (by decide) (hg _ k_27) (fun _ h9 => h9) rfl (by decide +kernel) rfl rfl (Nat.le_of_ble_eq_true rfl) dX1_init_33 (fun H locs hP hD hS => ?_)
  have hP : va_P (dC, dI) vwCl [(h0, .inr (1, [.null, .null, .null, .ref q1, .ref q2, .ref q3, .int 0, .int 0, .int 0, .int 0, .int 0])), (q1, .inl (cI, 1024, .inl zI)), (q2, .inl (cI, 1024, .inl zI)), (q3, .inl (cI, 1024, .inl zI))] H := hP
  have hD : va_D A [(h0, .inr (1, [.null, .null, .null, .ref q1, .ref q2, .ref q3, .int 0, .int 0, .int 0, .int 0, .int 0])), (q1, .inl (cI, 1024, .inl zI)), (q2, .inl (cI, 1024, .inl zI)), (q3, .inl (cI, 1024, .inl zI))] := hD
  refine lv_aload_n hx hb dX1_init_36 rfl (lv_at hl 0 rfl) ?_
  refine lv_iconst (v := 0) hx hb dX1_init_37 (by decide) ?_
  refine va_put (D := (dC, dI)) (ci := 1) (v := .int 0) (ty := .boolean) (C := RX1) (T := TX1) (N := 11) hx hb hg i_X1 tyX1 tyX1_ok nmX1 hown hK hP hD hS 0 rfl rfl 7 (by decide) (hg _ k_28) (fun _ h9 => h9) rfl (by decide +kernel) rfl rfl (Nat.le_of_ble_eq_true rfl) dX1_init_38 (fun H locs hP hD hS => ?_)
  have hP : va_P (dC, dI) vwCl [(h0, .inr (1, [.null, .null, .null, .ref q1, .ref q2, .ref q3, .int 0, .int 0, .int 0, .int 0, .int 0])), (q1, .inl (cI, 1024, .inl zI)), (q2, .inl (cI, 1024, .inl zI)), (q3, .inl (cI, 1024, .inl zI))] H := hP
  have hD : va_D A [(h0, .inr (1, [.null, .null, .null, .ref q1, .ref q2, .ref q3, .int 0, .int 0, .int 0, .int 0, .int 0])), (q1, .inl (cI, 1024, .inl zI)), (q2, .inl (cI, 1024, .inl zI)), (q3, .inl (cI, 1024, .inl zI))] := hD
  refine lv_aload_n hx hb dX1_init_41 rfl (lv_at hl 0 rfl) ?_
  refine lv_iconst (v := (-1)) hx hb dX1_init_42 (by decide) ?_
  refine va_put (D := (dC, dI)) (ci := 1) (v := .int (-1)) (ty := .int) (C := RX1) (T := TX1) (N := 11) hx hb hg i_X1 tyX1 tyX1_ok nmX1 hown hK hP hD hS 0 rfl rfl 8 (by decide) (hg _ k_29) (fun _ h9 => h9) rfl (by decide +kernel) rfl rfl (Nat.le_of_ble_eq_true rfl) dX1_init_43 (fun H locs hP hD hS => ?_)
  have hP : va_P (dC, dI) vwCl [(h0, .inr (1, [.null, .null, .null, .ref q1, .ref q2, .ref q3, .int 0, .int 0, .int (-1), .int 0, .int 0])), (q1, .inl (cI, 1024, .inl zI)), (q2, .inl (cI, 1024, .inl zI)), (q3, .inl (cI, 1024, .inl zI))] H := hP
  have hD : va_D A [(h0, .inr (1, [.null, .null, .null, .ref q1, .ref q2, .ref q3, .int 0, .int 0, .int (-1), .int 0, .int 0])), (q1, .inl (cI, 1024, .inl zI)), (q2, .inl (cI, 1024, .inl zI)), (q3, .inl (cI, 1024, .inl zI))] := hD
  refine lv_aload_n hx hb dX1_init_46 rfl (lv_at hl 0 rfl) ?_
  refine lv_iconst (v := 0) hx hb dX1_init_47 (by decide) ?_
  refine va_put (D := (dC, dI)) (ci := 1) (v := .int 0) (ty := .int) (C := RX1) (T := TX1) (N := 11) hx hb hg i_X1 tyX1 tyX1_ok nmX1 hown hK hP hD hS 0 rfl rfl 9 (by decide) (hg _ k_30) (fun _ h9 => h9) rfl (by decide +kernel) rfl rfl (Nat.le_of_ble_eq_true rfl) dX1_init_48 (fun H locs hP hD hS => ?_)
  have hP : va_P (dC, dI) vwCl [(h0, .inr (1, [.null, .null, .null, .ref q1, .ref q2, .ref q3, .int 0, .int 0, .int (-1), .int 0, .int 0])), (q1, .inl (cI, 1024, .inl zI)), (q2, .inl (cI, 1024, .inl zI)), (q3, .inl (cI, 1024, .inl zI))] H := hP
  have hD : va_D A [(h0, .inr (1, [.null, .null, .null, .ref q1, .ref q2, .ref q3, .int 0, .int 0, .int (-1), .int 0, .int 0])), (q1, .inl (cI, 1024, .inl zI)), (q2, .inl (cI, 1024, .inl zI)), (q3, .inl (cI, 1024, .inl zI))] := hD
  refine lv_aload_n hx hb dX1_init_51 rfl (lv_at hl 0 rfl) ?_
  refine lv_iconst (v := 0) hx hb dX1_init_52 (by decide) ?_
  refine va_put (D := (dC, dI)) (ci := 1) (v := .int 0) (ty := .int) (C := RX1) (T := TX1) (N := 11) hx hb hg i_X1 tyX1 tyX1_ok nmX1 hown hK hP hD hS 0 rfl rfl 10 (by decide) (hg _ k_31) (fun _ h9 => h9) rfl (by decide +kernel) rfl rfl (Nat.le_of_ble_eq_true rfl) dX1_init_53 (fun H locs hP hD hS => ?_)
  have hP : va_P (dC, dI) vwCl [(h0, .inr (1, [.null, .null, .null, .ref q1, .ref q2, .ref q3, .int 0, .int 0, .int (-1), .int 0, .int 0])), (q1, .inl (cI, 1024, .inl zI)), (q2, .inl (cI, 1024, .inl zI)), (q3, .inl (cI, 1024, .inl zI))] H := hP
  have hD : va_D A [(h0, .inr (1, [.null, .null, .null, .ref q1, .ref q2, .ref q3, .int 0, .int 0, .int (-1), .int 0, .int 0])), (q1, .inl (cI, 1024, .inl zI)), (q2, .inl (cI, 1024, .inl zI)), (q3, .inl (cI, 1024, .inl zI))] := hD
  refine lv_aload_n hx hb dX1_init_56 rfl (lv_at hl 0 rfl) ?_
  refine lv_aload_n hx hb dX1_init_57 rfl (lv_at hl 1 rfl) ?_
  refine va_putF (D := (dC, dI)) (ci := 1) (v := .ref n0) (ty := .object "TypeBench$Nodes") (C := RX1) (T := TX1) (N := 11) hx hb hg i_X1 tyX1 tyX1_ok nmX1 hown hK hP hD hS 0 rfl rfl 0 (by decide) (hg _ k_32) (fun _ h9 => h9) rfl hin rfl (by decide +kernel) rfl rfl (Nat.le_of_ble_eq_true rfl) dX1_init_58 (fun H locs hP hD hS => ?_)
  have hP : va_P (dC, dI) vwCl [(h0, .inr (1, [.ref n0, .null, .null, .ref q1, .ref q2, .ref q3, .int 0, .int 0, .int (-1), .int 0, .int 0])), (q1, .inl (cI, 1024, .inl zI)), (q2, .inl (cI, 1024, .inl zI)), (q3, .inl (cI, 1024, .inl zI))] H := hP
  have hD : va_D A [(h0, .inr (1, [.ref n0, .null, .null, .ref q1, .ref q2, .ref q3, .int 0, .int 0, .int (-1), .int 0, .int 0])), (q1, .inl (cI, 1024, .inl zI)), (q2, .inl (cI, 1024, .inl zI)), (q3, .inl (cI, 1024, .inl zI))] := hD
  refine lv_aload_n hx hb dX1_init_61 rfl (lv_at hl 0 rfl) ?_
  refine va_new (ci := 0) (fs := [.null, .null, .null, .int 0]) (C := RX0) (T := TX0) (N := 4) hx hb hg i_X0 tyX0 tyX0_ok hown (hg _ k_33) (hg _ k_34) (hg _ k_35) hK hP hD hS hA rfl (df_X0) (Nat.le_of_ble_eq_true rfl) (Nat.le_of_ble_eq_true rfl) dX1_init_62 (fun q4 H hP hD hS => ?_)
  have hP : va_P (dC, dI) vwCl [(h0, .inr (1, [.ref n0, .null, .null, .ref q1, .ref q2, .ref q3, .int 0, .int 0, .int (-1), .int 0, .int 0])), (q1, .inl (cI, 1024, .inl zI)), (q2, .inl (cI, 1024, .inl zI)), (q3, .inl (cI, 1024, .inl zI)), (q4, .inr (0, [.null, .null, .null, .int 0]))] H := hP
  have hD : va_D A [(h0, .inr (1, [.ref n0, .null, .null, .ref q1, .ref q2, .ref q3, .int 0, .int 0, .int (-1), .int 0, .int 0])), (q1, .inl (cI, 1024, .inl zI)), (q2, .inl (cI, 1024, .inl zI)), (q3, .inl (cI, 1024, .inl zI)), (q4, .inr (0, [.null, .null, .null, .int 0]))] := hD
  refine W.widen (k := 4) (n := 3076) (Nat.le_of_ble_eq_true rfl) (Nat.le_of_ble_eq_true rfl) ?_
  refine lv_dup hx hb dX1_init_65 rfl ?_
  refine lv_aload_n hx hb dX1_init_66 rfl (lv_at hl 1 rfl) ?_
  have hPc := hP.sub (ws' := [(q4, .inr (0, [.null, .null, .null, .int 0]))]) [4] rfl
  have hDc := hD.sub (ws' := [(q4, .inr (0, [.null, .null, .null, .int 0]))]) [4] (by decide) rfl
  have hFc := va_free (wc := [(q4, .inr (0, [.null, .null, .null, .int 0]))]) hD hS hA [4] rfl
  refine va_callv (va_runI (As := [.ref n0]) (rest := [.ref q4, .ref h0]) ⟨hx, hb, hml, hown, hg⟩ (c_X0_init l dC dI cI cZ cL q4 (Array.size _) n0) (cwI 1 hg g_yX0_init rfl rfl rfl (hg _ k_35) (hg _ k_36) (hg _ k_37) rfl (by decide +kernel) ⟨(Nat.le_of_ble_eq_true rfl), (Nat.le_of_ble_eq_true rfl)⟩) ⟨hp_bl, fun U hU hW => hp_ok hU hW hPc hK hDc⟩ rfl rfl hl.1 rfl (lv_room (Nat.le_of_ble_eq_true rfl)) dX1_init_67 ⟨(Nat.le_of_ble_eq_true rfl), (Nat.le_of_ble_eq_true rfl)⟩) hS (fun q _ h => hFc q h) hFc (fun u t H locs ht hvm hw hB hz1 hk1 hS => ?_)
  obtain ⟨q5, q6, hP1, hD1⟩ := hB
  rw [ht] at hP1
  obtain ⟨hP, hD⟩ := va_join (wr := [(h0, .inr (1, [.ref n0, .null, .null, .ref q1, .ref q2, .ref q3, .int 0, .int 0, .int (-1), .int 0, .int 0])), (q1, .inl (cI, 1024, .inl zI)), (q2, .inl (cI, 1024, .inl zI)), (q3, .inl (cI, 1024, .inl zI))]) (w1 := [(q4, .inr (0, [.ref n0, .ref q5, .ref q6, .int 0])), (q5, .inl (cI, 4096, .inl zI)), (q6, .inl (cI, 4096, .inl zI))]) hP hD [4] [0, 1, 2, 3] rfl rfl (by decide) (by decide) hk1 hFc hP1 hD1
  have hP : va_P (dC, dI) vwCl [(h0, .inr (1, [.ref n0, .null, .null, .ref q1, .ref q2, .ref q3, .int 0, .int 0, .int (-1), .int 0, .int 0])), (q1, .inl (cI, 1024, .inl zI)), (q2, .inl (cI, 1024, .inl zI)), (q3, .inl (cI, 1024, .inl zI)), (q4, .inr (0, [.ref n0, .ref q5, .ref q6, .int 0])), (q5, .inl (cI, 4096, .inl zI)), (q6, .inl (cI, 4096, .inl zI))] H := hP
  have hD : va_D A [(h0, .inr (1, [.ref n0, .null, .null, .ref q1, .ref q2, .ref q3, .int 0, .int 0, .int (-1), .int 0, .int 0])), (q1, .inl (cI, 1024, .inl zI)), (q2, .inl (cI, 1024, .inl zI)), (q3, .inl (cI, 1024, .inl zI)), (q4, .inr (0, [.ref n0, .ref q5, .ref q6, .int 0])), (q5, .inl (cI, 4096, .inl zI)), (q6, .inl (cI, 4096, .inl zI))] := hD
  refine W.widen (k := 6) (n := 11268) (Nat.le_of_ble_eq_true rfl) (Nat.le_of_ble_eq_true rfl) ?_
  refine va_putF (D := (dC, dI)) (ci := 1) (v := .ref q4) (ty := .object "TypeBench$Context") (C := RX1) (T := TX1) (N := 11) hx hb hg i_X1 tyX1 tyX1_ok nmX1 hown hK hP hD hS 0 rfl rfl 1 (by decide) (hg _ k_38) (fun _ h9 => h9) rfl hin rfl (by decide +kernel) rfl rfl (Nat.le_of_ble_eq_true rfl) dX1_init_70 (fun H locs hP hD hS => ?_)
  have hP : va_P (dC, dI) vwCl [(h0, .inr (1, [.ref n0, .ref q4, .null, .ref q1, .ref q2, .ref q3, .int 0, .int 0, .int (-1), .int 0, .int 0])), (q1, .inl (cI, 1024, .inl zI)), (q2, .inl (cI, 1024, .inl zI)), (q3, .inl (cI, 1024, .inl zI)), (q4, .inr (0, [.ref n0, .ref q5, .ref q6, .int 0])), (q5, .inl (cI, 4096, .inl zI)), (q6, .inl (cI, 4096, .inl zI))] H := hP
  have hD : va_D A [(h0, .inr (1, [.ref n0, .ref q4, .null, .ref q1, .ref q2, .ref q3, .int 0, .int 0, .int (-1), .int 0, .int 0])), (q1, .inl (cI, 1024, .inl zI)), (q2, .inl (cI, 1024, .inl zI)), (q3, .inl (cI, 1024, .inl zI)), (q4, .inr (0, [.ref n0, .ref q5, .ref q6, .int 0])), (q5, .inl (cI, 4096, .inl zI)), (q6, .inl (cI, 4096, .inl zI))] := hD
  refine lv_aload_n hx hb dX1_init_73 rfl (lv_at hl 0 rfl) ?_
  refine va_new (ci := 5) (fs := [.null, .null, .null, .null, .int 0, .int 0]) (C := RX5) (T := TX5) (N := 6) hx hb hg i_X5 tyX5 tyX5_ok hown (hg _ k_39) (hg _ k_40) (hg _ k_41) hK hP hD hS hA rfl (df_X5) (Nat.le_of_ble_eq_true rfl) (Nat.le_of_ble_eq_true rfl) dX1_init_74 (fun q7 H hP hD hS => ?_)
  have hP : va_P (dC, dI) vwCl [(h0, .inr (1, [.ref n0, .ref q4, .null, .ref q1, .ref q2, .ref q3, .int 0, .int 0, .int (-1), .int 0, .int 0])), (q1, .inl (cI, 1024, .inl zI)), (q2, .inl (cI, 1024, .inl zI)), (q3, .inl (cI, 1024, .inl zI)), (q4, .inr (0, [.ref n0, .ref q5, .ref q6, .int 0])), (q5, .inl (cI, 4096, .inl zI)), (q6, .inl (cI, 4096, .inl zI)), (q7, .inr (5, [.null, .null, .null, .null, .int 0, .int 0]))] H := hP
  have hD : va_D A [(h0, .inr (1, [.ref n0, .ref q4, .null, .ref q1, .ref q2, .ref q3, .int 0, .int 0, .int (-1), .int 0, .int 0])), (q1, .inl (cI, 1024, .inl zI)), (q2, .inl (cI, 1024, .inl zI)), (q3, .inl (cI, 1024, .inl zI)), (q4, .inr (0, [.ref n0, .ref q5, .ref q6, .int 0])), (q5, .inl (cI, 4096, .inl zI)), (q6, .inl (cI, 4096, .inl zI)), (q7, .inr (5, [.null, .null, .null, .null, .int 0, .int 0]))] := hD
  refine W.widen (k := 7) (n := 11274) (Nat.le_of_ble_eq_true rfl) (Nat.le_of_ble_eq_true rfl) ?_
  refine lv_dup hx hb dX1_init_77 rfl ?_
  refine lv_aload_n hx hb dX1_init_78 rfl (lv_at hl 1 rfl) ?_
  refine lv_aload_n hx hb dX1_init_79 rfl (lv_at hl 0 rfl) ?_
  refine va_get (D := (dC, dI)) (ci := 1) (v := .ref q4) (C := RX1) (T := TX1) (N := 11) hx hb hg i_X1 hown hK hP 0 rfl rfl 1 (by decide) (hg _ k_38) (fun _ h9 => h9) rfl dX1_init_80 ?_
  have hPc := hP.sub (ws' := [(q7, .inr (5, [.null, .null, .null, .null, .int 0, .int 0]))]) [7] rfl
  have hDc := hD.sub (ws' := [(q7, .inr (5, [.null, .null, .null, .null, .int 0, .int 0]))]) [7] (by decide) rfl
  have hFc := va_free (wc := [(q7, .inr (5, [.null, .null, .null, .null, .int 0, .int 0]))]) hD hS hA [7] rfl
  refine va_callv (va_runI (As := [.ref n0, .ref q4]) (rest := [.ref q7, .ref h0]) ⟨hx, hb, hml, hown, hg⟩ (c_X5_init l dC dI cI cZ cL q7 (Array.size _) n0 q4) (cwI 2 hg g_yX5_init rfl rfl rfl (hg _ k_41) (hg _ k_42) (hg _ k_43) rfl (by decide +kernel) ⟨(Nat.le_of_ble_eq_true rfl), (Nat.le_of_ble_eq_true rfl)⟩) ⟨hp_bl, fun U hU hW => hp_ok hU hW hPc hK hDc⟩ rfl rfl hl.1 rfl (lv_room (Nat.le_of_ble_eq_true rfl)) dX1_init_83 ⟨(Nat.le_of_ble_eq_true rfl), (Nat.le_of_ble_eq_true rfl)⟩) hS (fun q _ h => hFc q h) hFc (fun u t H locs ht hvm hw hB hz1 hk1 hS => ?_)
  obtain ⟨q8, q9, hP1, hD1⟩ := hB
  rw [ht] at hP1
  obtain ⟨hP, hD⟩ := va_join (wr := [(h0, .inr (1, [.ref n0, .ref q4, .null, .ref q1, .ref q2, .ref q3, .int 0, .int 0, .int (-1), .int 0, .int 0])), (q1, .inl (cI, 1024, .inl zI)), (q2, .inl (cI, 1024, .inl zI)), (q3, .inl (cI, 1024, .inl zI)), (q4, .inr (0, [.ref n0, .ref q5, .ref q6, .int 0])), (q5, .inl (cI, 4096, .inl zI)), (q6, .inl (cI, 4096, .inl zI))]) (w1 := [(q7, .inr (5, [.ref n0, .ref q4, .ref q8, .ref q9, .int 0, .int 0])), (q8, .inl (cI, 4096, .inl zI)), (q9, .inl (cI, 4096, .inl zI))]) hP hD [7] [0, 1, 2, 3, 4, 5, 6] rfl rfl (by decide) (by decide) hk1 hFc hP1 hD1
  have hP : va_P (dC, dI) vwCl [(h0, .inr (1, [.ref n0, .ref q4, .null, .ref q1, .ref q2, .ref q3, .int 0, .int 0, .int (-1), .int 0, .int 0])), (q1, .inl (cI, 1024, .inl zI)), (q2, .inl (cI, 1024, .inl zI)), (q3, .inl (cI, 1024, .inl zI)), (q4, .inr (0, [.ref n0, .ref q5, .ref q6, .int 0])), (q5, .inl (cI, 4096, .inl zI)), (q6, .inl (cI, 4096, .inl zI)), (q7, .inr (5, [.ref n0, .ref q4, .ref q8, .ref q9, .int 0, .int 0])), (q8, .inl (cI, 4096, .inl zI)), (q9, .inl (cI, 4096, .inl zI))] H := hP
  have hD : va_D A [(h0, .inr (1, [.ref n0, .ref q4, .null, .ref q1, .ref q2, .ref q3, .int 0, .int 0, .int (-1), .int 0, .int 0])), (q1, .inl (cI, 1024, .inl zI)), (q2, .inl (cI, 1024, .inl zI)), (q3, .inl (cI, 1024, .inl zI)), (q4, .inr (0, [.ref n0, .ref q5, .ref q6, .int 0])), (q5, .inl (cI, 4096, .inl zI)), (q6, .inl (cI, 4096, .inl zI)), (q7, .inr (5, [.ref n0, .ref q4, .ref q8, .ref q9, .int 0, .int 0])), (q8, .inl (cI, 4096, .inl zI)), (q9, .inl (cI, 4096, .inl zI))] := hD
  refine W.widen (k := 9) (n := 19466) (Nat.le_of_ble_eq_true rfl) (Nat.le_of_ble_eq_true rfl) ?_
  refine va_putF (D := (dC, dI)) (ci := 1) (v := .ref q7) (ty := .object "TypeBench$Search") (C := RX1) (T := TX1) (N := 11) hx hb hg i_X1 tyX1 tyX1_ok nmX1 hown hK hP hD hS 0 rfl rfl 2 (by decide) (hg _ k_44) (fun _ h9 => h9) rfl hin rfl (by decide +kernel) rfl rfl (Nat.le_of_ble_eq_true rfl) dX1_init_86 (fun H locs hP hD hS => ?_)
  have hP : va_P (dC, dI) vwCl [(h0, .inr (1, [.ref n0, .ref q4, .ref q7, .ref q1, .ref q2, .ref q3, .int 0, .int 0, .int (-1), .int 0, .int 0])), (q1, .inl (cI, 1024, .inl zI)), (q2, .inl (cI, 1024, .inl zI)), (q3, .inl (cI, 1024, .inl zI)), (q4, .inr (0, [.ref n0, .ref q5, .ref q6, .int 0])), (q5, .inl (cI, 4096, .inl zI)), (q6, .inl (cI, 4096, .inl zI)), (q7, .inr (5, [.ref n0, .ref q4, .ref q8, .ref q9, .int 0, .int 0])), (q8, .inl (cI, 4096, .inl zI)), (q9, .inl (cI, 4096, .inl zI))] H := hP
  have hD : va_D A [(h0, .inr (1, [.ref n0, .ref q4, .ref q7, .ref q1, .ref q2, .ref q3, .int 0, .int 0, .int (-1), .int 0, .int 0])), (q1, .inl (cI, 1024, .inl zI)), (q2, .inl (cI, 1024, .inl zI)), (q3, .inl (cI, 1024, .inl zI)), (q4, .inr (0, [.ref n0, .ref q5, .ref q6, .int 0])), (q5, .inl (cI, 4096, .inl zI)), (q6, .inl (cI, 4096, .inl zI)), (q7, .inr (5, [.ref n0, .ref q4, .ref q8, .ref q9, .int 0, .int 0])), (q8, .inl (cI, 4096, .inl zI)), (q9, .inl (cI, 4096, .inl zI))] := hD
  have hP9 := hP.sub (ws' := [(h0, .inr (1, [.ref n0, .ref q4, .ref q7, .ref q1, .ref q2, .ref q3, .int 0, .int 0, .int (-1), .int 0, .int 0])), (q1, .inl (cI, 1024, .inl zI)), (q2, .inl (cI, 1024, .inl zI)), (q3, .inl (cI, 1024, .inl zI)), (q4, .inr (0, [.ref n0, .ref q5, .ref q6, .int 0])), (q5, .inl (cI, 4096, .inl zI)), (q6, .inl (cI, 4096, .inl zI)), (q7, .inr (5, [.ref n0, .ref q4, .ref q8, .ref q9, .int 0, .int 0])), (q8, .inl (cI, 4096, .inl zI)), (q9, .inl (cI, 4096, .inl zI))]) [0, 1, 2, 3, 4, 5, 6, 7, 8, 9] rfl
  have hD9 := hD.sub (ws' := [(h0, .inr (1, [.ref n0, .ref q4, .ref q7, .ref q1, .ref q2, .ref q3, .int 0, .int 0, .int (-1), .int 0, .int 0])), (q1, .inl (cI, 1024, .inl zI)), (q2, .inl (cI, 1024, .inl zI)), (q3, .inl (cI, 1024, .inl zI)), (q4, .inr (0, [.ref n0, .ref q5, .ref q6, .int 0])), (q5, .inl (cI, 4096, .inl zI)), (q6, .inl (cI, 4096, .inl zI)), (q7, .inr (5, [.ref n0, .ref q4, .ref q8, .ref q9, .int 0, .int 0])), (q8, .inl (cI, 4096, .inl zI)), (q9, .inl (cI, 4096, .inl zI))]) [0, 1, 2, 3, 4, 5, 6, 7, 8, 9] (by decide) rfl
  refine W.widen (k := 9) (n := 19466) (Nat.le_of_ble_eq_true rfl) (Nat.le_of_ble_eq_true rfl) ?_
  exact W.vret hx hb hr (fun t ht hW => ⟨⟨(), rfl, trivial, q1, q2, q3, q4, q5, q6, q7, q8, q9, by rw [ht]; exact hP9, hD9⟩, hS.F ht⟩) hS.2.2 dX1_init_89

set_option maxHeartbeats 4000000 in
set_option maxRecDepth 100000 in
/-- Nodes(): five rows -/
theorem c_X2_init (l : Launch) (dC : Nat → ClassId) (dI : Nat → Nat → Nat) (cI cZ cL : ClassId) (h0 : Nat) (sz : Nat)  : Met l yX2_init (wd yX2_init cX2_init 1 none) ({ frames := 1, cells := 5, slots := 20480, locals := 12 }) (va_Pc [.ref h0] (hp dC dI cI cZ cL sz [(h0, .inr (2, [.null, .null, .null, .null, .null, .int 0]))])) (va_Qv (fun (_ : Unit) => True) (fun (_ : Unit) t => ∃ q1 : Nat, ∃ q2 : Nat, ∃ q3 : Nat, ∃ q4 : Nat, ∃ q5 : Nat, va_P (dC, dI) vwCl [(h0, .inr (2, [.ref q1, .ref q2, .ref q3, .ref q4, .ref q5, .int 0])), (q1, .inl (cI, 4096, .inl zI)), (q2, .inl (cI, 4096, .inl zI)), (q3, .inl (cI, 4096, .inl zI)), (q4, .inl (cI, 4096, .inl zI)), (q5, .inl (cZ, 4096, .inl zI))] t.heap ∧ va_D (va_A [(h0, .inr (2, [.null, .null, .null, .null, .null, .int 0]))] sz) [(h0, .inr (2, [.ref q1, .ref q2, .ref q3, .ref q4, .ref q5, .int 0])), (q1, .inl (cI, 4096, .inl zI)), (q2, .inl (cI, 4096, .inl zI)), (q3, .inl (cI, 4096, .inl zI)), (q4, .inl (cI, 4096, .inl zI)), (q5, .inl (cZ, 4096, .inl zI))]) (va_A [(h0, .inr (2, [.null, .null, .null, .null, .null, .int 0]))] sz)) 5 20480 (va_A [(h0, .inr (2, [.null, .null, .null, .null, .null, .int 0]))] sz) := by
  refine Met.ofW (cc := cX2_init) (maxL := 1) (ret := none) (by decide) rfl ?_
  intro p e s m args below meth c s₁ B hml hv
  obtain ⟨rfl, hsz, hP, hK, hD0⟩ := hv
  have hx := B.exec
  have hb := B.bytes
  have hr := B.returns
  have hw9 := atoms_spec (ws := (wd yX2_init cX2_init 1 none)) B.pre
  have hg := gw_hts hw9
  have hown : s.vm.findClass RX2 = some m.cls := findClass_of_methodNamed B.named
  have hlocks := B.notSynchronized
  have hin : meth.name = "<init>" := (name_of_methodNamed B.named B.method).1
  subst hsz
  have hD := hD0.self (sz := s.heap.size)
  generalize hAe : va_A [(h0, .inr (2, [.null, .null, .null, .null, .null, .int 0]))] s.heap.size = A at hD ⊢
  have hA : ∀ q : Nat, s.heap.size ≤ q → A q := fun q h => by rw [← hAe]; exact Or.inr h
  have hS : va_S A s.heap s.heap [] := va_S.rf
  have hl := lv_entry ([.ref h0]) (n := 1) (Nat.le_of_ble_eq_true rfl)
  rw [lg_entry_eq]
  generalize (lg_sl ([.ref h0]) ++ List.replicate (1 - (lg_sl ([.ref h0])).length) Slot.unset).toArray = ls at hl ⊢
  have hl : lv_has ls 1 [(0, .ref h0)] := hl
  refine lv_aload_n hx hb dX2_init_0 rfl (lv_at hl 0 rfl) ?_
  refine W.objInit hx hb hown (hg _ k_45) (hg _ k_9) (hg _ k_10) rfl (by rw [hml]; exact hl.1) rfl dX2_init_1 (Nat.le_of_ble_eq_true rfl) (Nat.le_of_ble_eq_true rfl) ?_
  refine W.eq (g2 := F0 m 4 ls []) rfl ?_
  refine lv_aload_n hx hb dX2_init_4 rfl (lv_at hl 0 rfl) ?_
  refine lv_sipush (v := 4096) hx hb dX2_init_5 (by decide) ?_
  refine va_newa (atype := .int) (ty := .int) (N' := 4096) (a0 := (4096, .inl zI)) hx hb (hg _ k_11) rfl hK hP hD hS hA (fun _ => rfl) (by decide) (by decide) (by decide) (Nat.le_of_ble_eq_true rfl) (Nat.le_of_ble_eq_true rfl) dX2_init_8 (fun q1 cA H hK1 hP hD hS => ?_)
  obtain rfl := ty_int hK1
  have hP : va_P (dC, dI) vwCl [(h0, .inr (2, [.null, .null, .null, .null, .null, .int 0])), (q1, .inl (cI, 4096, .inl zI))] H := hP
  have hD : va_D A [(h0, .inr (2, [.null, .null, .null, .null, .null, .int 0])), (q1, .inl (cI, 4096, .inl zI))] := hD
  refine W.widen (k := 1) (n := 4096) (Nat.le_of_ble_eq_true rfl) (Nat.le_of_ble_eq_true rfl) ?_
  refine va_putF (D := (dC, dI)) (ci := 2) (v := .ref q1) (ty := .array .int) (C := RX2) (T := TX2) (N := 6) hx hb hg i_X2 tyX2 tyX2_ok nmX2 hown hK hP hD hS 0 rfl rfl 0 (by decide) (hg _ k_46) (fun _ h9 => h9) rfl hin rfl (by decide +kernel) rfl rfl (Nat.le_of_ble_eq_true rfl) dX2_init_10 (fun H locs hP hD hS => ?_)
  have hP : va_P (dC, dI) vwCl [(h0, .inr (2, [.ref q1, .null, .null, .null, .null, .int 0])), (q1, .inl (cI, 4096, .inl zI))] H := hP
  have hD : va_D A [(h0, .inr (2, [.ref q1, .null, .null, .null, .null, .int 0])), (q1, .inl (cI, 4096, .inl zI))] := hD
  refine lv_aload_n hx hb dX2_init_13 rfl (lv_at hl 0 rfl) ?_
  refine lv_sipush (v := 4096) hx hb dX2_init_14 (by decide) ?_
  refine va_newa (atype := .int) (ty := .int) (N' := 4096) (a0 := (4096, .inl zI)) hx hb (hg _ k_11) rfl hK hP hD hS hA (fun _ => rfl) (by decide) (by decide) (by decide) (Nat.le_of_ble_eq_true rfl) (Nat.le_of_ble_eq_true rfl) dX2_init_17 (fun q2 cA H hK1 hP hD hS => ?_)
  obtain rfl := ty_int hK1
  have hP : va_P (dC, dI) vwCl [(h0, .inr (2, [.ref q1, .null, .null, .null, .null, .int 0])), (q1, .inl (cI, 4096, .inl zI)), (q2, .inl (cI, 4096, .inl zI))] H := hP
  have hD : va_D A [(h0, .inr (2, [.ref q1, .null, .null, .null, .null, .int 0])), (q1, .inl (cI, 4096, .inl zI)), (q2, .inl (cI, 4096, .inl zI))] := hD
  refine W.widen (k := 2) (n := 8192) (Nat.le_of_ble_eq_true rfl) (Nat.le_of_ble_eq_true rfl) ?_
  refine va_putF (D := (dC, dI)) (ci := 2) (v := .ref q2) (ty := .array .int) (C := RX2) (T := TX2) (N := 6) hx hb hg i_X2 tyX2 tyX2_ok nmX2 hown hK hP hD hS 0 rfl rfl 1 (by decide) (hg _ k_47) (fun _ h9 => h9) rfl hin rfl (by decide +kernel) rfl rfl (Nat.le_of_ble_eq_true rfl) dX2_init_19 (fun H locs hP hD hS => ?_)
  have hP : va_P (dC, dI) vwCl [(h0, .inr (2, [.ref q1, .ref q2, .null, .null, .null, .int 0])), (q1, .inl (cI, 4096, .inl zI)), (q2, .inl (cI, 4096, .inl zI))] H := hP
  have hD : va_D A [(h0, .inr (2, [.ref q1, .ref q2, .null, .null, .null, .int 0])), (q1, .inl (cI, 4096, .inl zI)), (q2, .inl (cI, 4096, .inl zI))] := hD
  refine lv_aload_n hx hb dX2_init_22 rfl (lv_at hl 0 rfl) ?_
  refine lv_sipush (v := 4096) hx hb dX2_init_23 (by decide) ?_
  refine va_newa (atype := .int) (ty := .int) (N' := 4096) (a0 := (4096, .inl zI)) hx hb (hg _ k_11) rfl hK hP hD hS hA (fun _ => rfl) (by decide) (by decide) (by decide) (Nat.le_of_ble_eq_true rfl) (Nat.le_of_ble_eq_true rfl) dX2_init_26 (fun q3 cA H hK1 hP hD hS => ?_)
  obtain rfl := ty_int hK1
  have hP : va_P (dC, dI) vwCl [(h0, .inr (2, [.ref q1, .ref q2, .null, .null, .null, .int 0])), (q1, .inl (cI, 4096, .inl zI)), (q2, .inl (cI, 4096, .inl zI)), (q3, .inl (cI, 4096, .inl zI))] H := hP
  have hD : va_D A [(h0, .inr (2, [.ref q1, .ref q2, .null, .null, .null, .int 0])), (q1, .inl (cI, 4096, .inl zI)), (q2, .inl (cI, 4096, .inl zI)), (q3, .inl (cI, 4096, .inl zI))] := hD
  refine W.widen (k := 3) (n := 12288) (Nat.le_of_ble_eq_true rfl) (Nat.le_of_ble_eq_true rfl) ?_
  refine va_putF (D := (dC, dI)) (ci := 2) (v := .ref q3) (ty := .array .int) (C := RX2) (T := TX2) (N := 6) hx hb hg i_X2 tyX2 tyX2_ok nmX2 hown hK hP hD hS 0 rfl rfl 2 (by decide) (hg _ k_48) (fun _ h9 => h9) rfl hin rfl (by decide +kernel) rfl rfl (Nat.le_of_ble_eq_true rfl) dX2_init_28 (fun H locs hP hD hS => ?_)
  have hP : va_P (dC, dI) vwCl [(h0, .inr (2, [.ref q1, .ref q2, .ref q3, .null, .null, .int 0])), (q1, .inl (cI, 4096, .inl zI)), (q2, .inl (cI, 4096, .inl zI)), (q3, .inl (cI, 4096, .inl zI))] H := hP
  have hD : va_D A [(h0, .inr (2, [.ref q1, .ref q2, .ref q3, .null, .null, .int 0])), (q1, .inl (cI, 4096, .inl zI)), (q2, .inl (cI, 4096, .inl zI)), (q3, .inl (cI, 4096, .inl zI))] := hD
  refine lv_aload_n hx hb dX2_init_31 rfl (lv_at hl 0 rfl) ?_
  refine lv_sipush (v := 4096) hx hb dX2_init_32 (by decide) ?_
  refine va_newa (atype := .int) (ty := .int) (N' := 4096) (a0 := (4096, .inl zI)) hx hb (hg _ k_11) rfl hK hP hD hS hA (fun _ => rfl) (by decide) (by decide) (by decide) (Nat.le_of_ble_eq_true rfl) (Nat.le_of_ble_eq_true rfl) dX2_init_35 (fun q4 cA H hK1 hP hD hS => ?_)
  obtain rfl := ty_int hK1
  have hP : va_P (dC, dI) vwCl [(h0, .inr (2, [.ref q1, .ref q2, .ref q3, .null, .null, .int 0])), (q1, .inl (cI, 4096, .inl zI)), (q2, .inl (cI, 4096, .inl zI)), (q3, .inl (cI, 4096, .inl zI)), (q4, .inl (cI, 4096, .inl zI))] H := hP
  have hD : va_D A [(h0, .inr (2, [.ref q1, .ref q2, .ref q3, .null, .null, .int 0])), (q1, .inl (cI, 4096, .inl zI)), (q2, .inl (cI, 4096, .inl zI)), (q3, .inl (cI, 4096, .inl zI)), (q4, .inl (cI, 4096, .inl zI))] := hD
  refine W.widen (k := 4) (n := 16384) (Nat.le_of_ble_eq_true rfl) (Nat.le_of_ble_eq_true rfl) ?_
  refine va_putF (D := (dC, dI)) (ci := 2) (v := .ref q4) (ty := .array .int) (C := RX2) (T := TX2) (N := 6) hx hb hg i_X2 tyX2 tyX2_ok nmX2 hown hK hP hD hS 0 rfl rfl 3 (by decide) (hg _ k_49) (fun _ h9 => h9) rfl hin rfl (by decide +kernel) rfl rfl (Nat.le_of_ble_eq_true rfl) dX2_init_37 (fun H locs hP hD hS => ?_)
  have hP : va_P (dC, dI) vwCl [(h0, .inr (2, [.ref q1, .ref q2, .ref q3, .ref q4, .null, .int 0])), (q1, .inl (cI, 4096, .inl zI)), (q2, .inl (cI, 4096, .inl zI)), (q3, .inl (cI, 4096, .inl zI)), (q4, .inl (cI, 4096, .inl zI))] H := hP
  have hD : va_D A [(h0, .inr (2, [.ref q1, .ref q2, .ref q3, .ref q4, .null, .int 0])), (q1, .inl (cI, 4096, .inl zI)), (q2, .inl (cI, 4096, .inl zI)), (q3, .inl (cI, 4096, .inl zI)), (q4, .inl (cI, 4096, .inl zI))] := hD
  refine lv_aload_n hx hb dX2_init_40 rfl (lv_at hl 0 rfl) ?_
  refine lv_sipush (v := 4096) hx hb dX2_init_41 (by decide) ?_
  refine va_newa (atype := .boolean) (ty := .boolean) (N' := 4096) (a0 := (4096, .inl zI)) hx hb (hg _ k_50) rfl hK hP hD hS hA (fun _ => rfl) (by decide) (by decide) (by decide) (Nat.le_of_ble_eq_true rfl) (Nat.le_of_ble_eq_true rfl) dX2_init_44 (fun q5 cA H hK1 hP hD hS => ?_)
  obtain rfl := ty_boolean hK1
  have hP : va_P (dC, dI) vwCl [(h0, .inr (2, [.ref q1, .ref q2, .ref q3, .ref q4, .null, .int 0])), (q1, .inl (cI, 4096, .inl zI)), (q2, .inl (cI, 4096, .inl zI)), (q3, .inl (cI, 4096, .inl zI)), (q4, .inl (cI, 4096, .inl zI)), (q5, .inl (cZ, 4096, .inl zI))] H := hP
  have hD : va_D A [(h0, .inr (2, [.ref q1, .ref q2, .ref q3, .ref q4, .null, .int 0])), (q1, .inl (cI, 4096, .inl zI)), (q2, .inl (cI, 4096, .inl zI)), (q3, .inl (cI, 4096, .inl zI)), (q4, .inl (cI, 4096, .inl zI)), (q5, .inl (cZ, 4096, .inl zI))] := hD
  refine W.widen (k := 5) (n := 20480) (Nat.le_of_ble_eq_true rfl) (Nat.le_of_ble_eq_true rfl) ?_
  refine va_putF (D := (dC, dI)) (ci := 2) (v := .ref q5) (ty := .array .boolean) (C := RX2) (T := TX2) (N := 6) hx hb hg i_X2 tyX2 tyX2_ok nmX2 hown hK hP hD hS 0 rfl rfl 4 (by decide) (hg _ k_51) (fun _ h9 => h9) rfl hin rfl (by decide +kernel) rfl rfl (Nat.le_of_ble_eq_true rfl) dX2_init_46 (fun H locs hP hD hS => ?_)
  have hP : va_P (dC, dI) vwCl [(h0, .inr (2, [.ref q1, .ref q2, .ref q3, .ref q4, .ref q5, .int 0])), (q1, .inl (cI, 4096, .inl zI)), (q2, .inl (cI, 4096, .inl zI)), (q3, .inl (cI, 4096, .inl zI)), (q4, .inl (cI, 4096, .inl zI)), (q5, .inl (cZ, 4096, .inl zI))] H := hP
  have hD : va_D A [(h0, .inr (2, [.ref q1, .ref q2, .ref q3, .ref q4, .ref q5, .int 0])), (q1, .inl (cI, 4096, .inl zI)), (q2, .inl (cI, 4096, .inl zI)), (q3, .inl (cI, 4096, .inl zI)), (q4, .inl (cI, 4096, .inl zI)), (q5, .inl (cZ, 4096, .inl zI))] := hD
  refine lv_aload_n hx hb dX2_init_49 rfl (lv_at hl 0 rfl) ?_
  refine lv_iconst (v := 0) hx hb dX2_init_50 (by decide) ?_
  refine va_put (D := (dC, dI)) (ci := 2) (v := .int 0) (ty := .int) (C := RX2) (T := TX2) (N := 6) hx hb hg i_X2 tyX2 tyX2_ok nmX2 hown hK hP hD hS 0 rfl rfl 5 (by decide) (hg _ k_52) (fun _ h9 => h9) rfl (by decide +kernel) rfl rfl (Nat.le_of_ble_eq_true rfl) dX2_init_51 (fun H locs hP hD hS => ?_)
  have hP : va_P (dC, dI) vwCl [(h0, .inr (2, [.ref q1, .ref q2, .ref q3, .ref q4, .ref q5, .int 0])), (q1, .inl (cI, 4096, .inl zI)), (q2, .inl (cI, 4096, .inl zI)), (q3, .inl (cI, 4096, .inl zI)), (q4, .inl (cI, 4096, .inl zI)), (q5, .inl (cZ, 4096, .inl zI))] H := hP
  have hD : va_D A [(h0, .inr (2, [.ref q1, .ref q2, .ref q3, .ref q4, .ref q5, .int 0])), (q1, .inl (cI, 4096, .inl zI)), (q2, .inl (cI, 4096, .inl zI)), (q3, .inl (cI, 4096, .inl zI)), (q4, .inl (cI, 4096, .inl zI)), (q5, .inl (cZ, 4096, .inl zI))] := hD
  have hP9 := hP.sub (ws' := [(h0, .inr (2, [.ref q1, .ref q2, .ref q3, .ref q4, .ref q5, .int 0])), (q1, .inl (cI, 4096, .inl zI)), (q2, .inl (cI, 4096, .inl zI)), (q3, .inl (cI, 4096, .inl zI)), (q4, .inl (cI, 4096, .inl zI)), (q5, .inl (cZ, 4096, .inl zI))]) [0, 1, 2, 3, 4, 5] rfl
  have hD9 := hD.sub (ws' := [(h0, .inr (2, [.ref q1, .ref q2, .ref q3, .ref q4, .ref q5, .int 0])), (q1, .inl (cI, 4096, .inl zI)), (q2, .inl (cI, 4096, .inl zI)), (q3, .inl (cI, 4096, .inl zI)), (q4, .inl (cI, 4096, .inl zI)), (q5, .inl (cZ, 4096, .inl zI))]) [0, 1, 2, 3, 4, 5] (by decide) rfl
  refine W.widen (k := 5) (n := 20480) (Nat.le_of_ble_eq_true rfl) (Nat.le_of_ble_eq_true rfl) ?_
  exact W.vret hx hb hr (fun t ht hW => ⟨⟨(), rfl, trivial, q1, q2, q3, q4, q5, by rw [ht]; exact hP9, hD9⟩, hS.F ht⟩) hS.2.2 dX2_init_54

set_option maxHeartbeats 4000000 in
set_option maxRecDepth 100000 in
/-- Printer(nodes) -/
theorem c_X3_init (l : Launch) (dC : Nat → ClassId) (dI : Nat → Nat → Nat) (cI cZ cL : ClassId) (h0 : Nat) (sz : Nat) (n0 : Nat) : Met l yX3_init (wd yX3_init cX3_init 2 none) ({ frames := 1, cells := 2, slots := 8192, locals := 12 }) (va_Pc [.ref h0, .ref n0] (hp dC dI cI cZ cL sz [(h0, .inr (3, [.null, .null, .null, .int 0, .int 0, .int 0]))])) (va_Qv (fun (_ : Unit) => True) (fun (_ : Unit) t => ∃ q1 : Nat, ∃ q2 : Nat, va_P (dC, dI) vwCl [(h0, .inr (3, [.ref n0, .ref q1, .ref q2, .int 0, .int (-1), .int 0])), (q1, .inl (cI, 4096, .inl zI)), (q2, .inl (cI, 4096, .inl zI))] t.heap ∧ va_D (va_A [(h0, .inr (3, [.null, .null, .null, .int 0, .int 0, .int 0]))] sz) [(h0, .inr (3, [.ref n0, .ref q1, .ref q2, .int 0, .int (-1), .int 0])), (q1, .inl (cI, 4096, .inl zI)), (q2, .inl (cI, 4096, .inl zI))]) (va_A [(h0, .inr (3, [.null, .null, .null, .int 0, .int 0, .int 0]))] sz)) 2 8192 (va_A [(h0, .inr (3, [.null, .null, .null, .int 0, .int 0, .int 0]))] sz) := by
  refine Met.ofW (cc := cX3_init) (maxL := 2) (ret := none) (by decide) rfl ?_
  intro p e s m args below meth c s₁ B hml hv
  obtain ⟨rfl, hsz, hP, hK, hD0⟩ := hv
  have hx := B.exec
  have hb := B.bytes
  have hr := B.returns
  have hw9 := atoms_spec (ws := (wd yX3_init cX3_init 2 none)) B.pre
  have hg := gw_hts hw9
  have hown : s.vm.findClass RX3 = some m.cls := findClass_of_methodNamed B.named
  have hlocks := B.notSynchronized
  have hin : meth.name = "<init>" := (name_of_methodNamed B.named B.method).1
  subst hsz
  have hD := hD0.self (sz := s.heap.size)
  generalize hAe : va_A [(h0, .inr (3, [.null, .null, .null, .int 0, .int 0, .int 0]))] s.heap.size = A at hD ⊢
  have hA : ∀ q : Nat, s.heap.size ≤ q → A q := fun q h => by rw [← hAe]; exact Or.inr h
  have hS : va_S A s.heap s.heap [] := va_S.rf
  have hl := lv_entry ([.ref h0, .ref n0]) (n := 2) (Nat.le_of_ble_eq_true rfl)
  rw [lg_entry_eq]
  generalize (lg_sl ([.ref h0, .ref n0]) ++ List.replicate (2 - (lg_sl ([.ref h0, .ref n0])).length) Slot.unset).toArray = ls at hl ⊢
  have hl : lv_has ls 2 [(0, .ref h0), (1, .ref n0)] := hl
  refine lv_aload_n hx hb dX3_init_0 rfl (lv_at hl 0 rfl) ?_
  refine W.objInit hx hb hown (hg _ k_53) (hg _ k_9) (hg _ k_10) rfl (by rw [hml]; exact hl.1) rfl dX3_init_1 (Nat.le_of_ble_eq_true rfl) (Nat.le_of_ble_eq_true rfl) ?_
  refine W.eq (g2 := F0 m 4 ls []) rfl ?_
  refine lv_aload_n hx hb dX3_init_4 rfl (lv_at hl 0 rfl) ?_
  refine lv_sipush (v := 4096) hx hb dX3_init_5 (by decide) ?_
  refine va_newa (atype := .int) (ty := .int) (N' := 4096) (a0 := (4096, .inl zI)) hx hb (hg _ k_11) rfl hK hP hD hS hA (fun _ => rfl) (by decide) (by decide) (by decide) (Nat.le_of_ble_eq_true rfl) (Nat.le_of_ble_eq_true rfl) dX3_init_8 (fun q1 cA H hK1 hP hD hS => ?_)
  obtain rfl := ty_int hK1
  have hP : va_P (dC, dI) vwCl [(h0, .inr (3, [.null, .null, .null, .int 0, .int 0, .int 0])), (q1, .inl (cI, 4096, .inl zI))] H := hP
  have hD : va_D A [(h0, .inr (3, [.null, .null, .null, .int 0, .int 0, .int 0])), (q1, .inl (cI, 4096, .inl zI))] := hD
  refine W.widen (k := 1) (n := 4096) (Nat.le_of_ble_eq_true rfl) (Nat.le_of_ble_eq_true rfl) ?_
  refine va_putF (D := (dC, dI)) (ci := 3) (v := .ref q1) (ty := .array .int) (C := RX3) (T := TX3) (N := 6) hx hb hg i_X3 tyX3 tyX3_ok nmX3 hown hK hP hD hS 0 rfl rfl 1 (by decide) (hg _ k_54) (fun _ h9 => h9) rfl hin rfl (by decide +kernel) rfl rfl (Nat.le_of_ble_eq_true rfl) dX3_init_10 (fun H locs hP hD hS => ?_)
  have hP : va_P (dC, dI) vwCl [(h0, .inr (3, [.null, .ref q1, .null, .int 0, .int 0, .int 0])), (q1, .inl (cI, 4096, .inl zI))] H := hP
  have hD : va_D A [(h0, .inr (3, [.null, .ref q1, .null, .int 0, .int 0, .int 0])), (q1, .inl (cI, 4096, .inl zI))] := hD
  refine lv_aload_n hx hb dX3_init_13 rfl (lv_at hl 0 rfl) ?_
  refine lv_sipush (v := 4096) hx hb dX3_init_14 (by decide) ?_
  refine va_newa (atype := .int) (ty := .int) (N' := 4096) (a0 := (4096, .inl zI)) hx hb (hg _ k_11) rfl hK hP hD hS hA (fun _ => rfl) (by decide) (by decide) (by decide) (Nat.le_of_ble_eq_true rfl) (Nat.le_of_ble_eq_true rfl) dX3_init_17 (fun q2 cA H hK1 hP hD hS => ?_)
  obtain rfl := ty_int hK1
  have hP : va_P (dC, dI) vwCl [(h0, .inr (3, [.null, .ref q1, .null, .int 0, .int 0, .int 0])), (q1, .inl (cI, 4096, .inl zI)), (q2, .inl (cI, 4096, .inl zI))] H := hP
  have hD : va_D A [(h0, .inr (3, [.null, .ref q1, .null, .int 0, .int 0, .int 0])), (q1, .inl (cI, 4096, .inl zI)), (q2, .inl (cI, 4096, .inl zI))] := hD
  refine W.widen (k := 2) (n := 8192) (Nat.le_of_ble_eq_true rfl) (Nat.le_of_ble_eq_true rfl) ?_
  refine va_putF (D := (dC, dI)) (ci := 3) (v := .ref q2) (ty := .array .int) (C := RX3) (T := TX3) (N := 6) hx hb hg i_X3 tyX3 tyX3_ok nmX3 hown hK hP hD hS 0 rfl rfl 2 (by decide) (hg _ k_55) (fun _ h9 => h9) rfl hin rfl (by decide +kernel) rfl rfl (Nat.le_of_ble_eq_true rfl) dX3_init_19 (fun H locs hP hD hS => ?_)
  have hP : va_P (dC, dI) vwCl [(h0, .inr (3, [.null, .ref q1, .ref q2, .int 0, .int 0, .int 0])), (q1, .inl (cI, 4096, .inl zI)), (q2, .inl (cI, 4096, .inl zI))] H := hP
  have hD : va_D A [(h0, .inr (3, [.null, .ref q1, .ref q2, .int 0, .int 0, .int 0])), (q1, .inl (cI, 4096, .inl zI)), (q2, .inl (cI, 4096, .inl zI))] := hD
  refine lv_aload_n hx hb dX3_init_22 rfl (lv_at hl 0 rfl) ?_
  refine lv_iconst (v := 0) hx hb dX3_init_23 (by decide) ?_
  refine va_put (D := (dC, dI)) (ci := 3) (v := .int 0) (ty := .int) (C := RX3) (T := TX3) (N := 6) hx hb hg i_X3 tyX3 tyX3_ok nmX3 hown hK hP hD hS 0 rfl rfl 3 (by decide) (hg _ k_56) (fun _ h9 => h9) rfl (by decide +kernel) rfl rfl (Nat.le_of_ble_eq_true rfl) dX3_init_24 (fun H locs hP hD hS => ?_)
  have hP : va_P (dC, dI) vwCl [(h0, .inr (3, [.null, .ref q1, .ref q2, .int 0, .int 0, .int 0])), (q1, .inl (cI, 4096, .inl zI)), (q2, .inl (cI, 4096, .inl zI))] H := hP
  have hD : va_D A [(h0, .inr (3, [.null, .ref q1, .ref q2, .int 0, .int 0, .int 0])), (q1, .inl (cI, 4096, .inl zI)), (q2, .inl (cI, 4096, .inl zI))] := hD
  refine lv_aload_n hx hb dX3_init_27 rfl (lv_at hl 0 rfl) ?_
  refine lv_iconst (v := (-1)) hx hb dX3_init_28 (by decide) ?_
  refine va_put (D := (dC, dI)) (ci := 3) (v := .int (-1)) (ty := .int) (C := RX3) (T := TX3) (N := 6) hx hb hg i_X3 tyX3 tyX3_ok nmX3 hown hK hP hD hS 0 rfl rfl 4 (by decide) (hg _ k_57) (fun _ h9 => h9) rfl (by decide +kernel) rfl rfl (Nat.le_of_ble_eq_true rfl) dX3_init_29 (fun H locs hP hD hS => ?_)
  have hP : va_P (dC, dI) vwCl [(h0, .inr (3, [.null, .ref q1, .ref q2, .int 0, .int (-1), .int 0])), (q1, .inl (cI, 4096, .inl zI)), (q2, .inl (cI, 4096, .inl zI))] H := hP
  have hD : va_D A [(h0, .inr (3, [.null, .ref q1, .ref q2, .int 0, .int (-1), .int 0])), (q1, .inl (cI, 4096, .inl zI)), (q2, .inl (cI, 4096, .inl zI))] := hD
  refine lv_aload_n hx hb dX3_init_32 rfl (lv_at hl 0 rfl) ?_
  refine lv_iconst (v := 0) hx hb dX3_init_33 (by decide) ?_
  refine va_put (D := (dC, dI)) (ci := 3) (v := .int 0) (ty := .int) (C := RX3) (T := TX3) (N := 6) hx hb hg i_X3 tyX3 tyX3_ok nmX3 hown hK hP hD hS 0 rfl rfl 5 (by decide) (hg _ k_58) (fun _ h9 => h9) rfl (by decide +kernel) rfl rfl (Nat.le_of_ble_eq_true rfl) dX3_init_34 (fun H locs hP hD hS => ?_)
  have hP : va_P (dC, dI) vwCl [(h0, .inr (3, [.null, .ref q1, .ref q2, .int 0, .int (-1), .int 0])), (q1, .inl (cI, 4096, .inl zI)), (q2, .inl (cI, 4096, .inl zI))] H := hP
  have hD : va_D A [(h0, .inr (3, [.null, .ref q1, .ref q2, .int 0, .int (-1), .int 0])), (q1, .inl (cI, 4096, .inl zI)), (q2, .inl (cI, 4096, .inl zI))] := hD
  refine lv_aload_n hx hb dX3_init_37 rfl (lv_at hl 0 rfl) ?_
  refine lv_aload_n hx hb dX3_init_38 rfl (lv_at hl 1 rfl) ?_
  refine va_putF (D := (dC, dI)) (ci := 3) (v := .ref n0) (ty := .object "TypeBench$Nodes") (C := RX3) (T := TX3) (N := 6) hx hb hg i_X3 tyX3 tyX3_ok nmX3 hown hK hP hD hS 0 rfl rfl 0 (by decide) (hg _ k_59) (fun _ h9 => h9) rfl hin rfl (by decide +kernel) rfl rfl (Nat.le_of_ble_eq_true rfl) dX3_init_39 (fun H locs hP hD hS => ?_)
  have hP : va_P (dC, dI) vwCl [(h0, .inr (3, [.ref n0, .ref q1, .ref q2, .int 0, .int (-1), .int 0])), (q1, .inl (cI, 4096, .inl zI)), (q2, .inl (cI, 4096, .inl zI))] H := hP
  have hD : va_D A [(h0, .inr (3, [.ref n0, .ref q1, .ref q2, .int 0, .int (-1), .int 0])), (q1, .inl (cI, 4096, .inl zI)), (q2, .inl (cI, 4096, .inl zI))] := hD
  have hP9 := hP.sub (ws' := [(h0, .inr (3, [.ref n0, .ref q1, .ref q2, .int 0, .int (-1), .int 0])), (q1, .inl (cI, 4096, .inl zI)), (q2, .inl (cI, 4096, .inl zI))]) [0, 1, 2] rfl
  have hD9 := hD.sub (ws' := [(h0, .inr (3, [.ref n0, .ref q1, .ref q2, .int 0, .int (-1), .int 0])), (q1, .inl (cI, 4096, .inl zI)), (q2, .inl (cI, 4096, .inl zI))]) [0, 1, 2] (by decide) rfl
  refine W.widen (k := 2) (n := 8192) (Nat.le_of_ble_eq_true rfl) (Nat.le_of_ble_eq_true rfl) ?_
  exact W.vret hx hb hr (fun t ht hW => ⟨⟨(), rfl, trivial, q1, q2, by rw [ht]; exact hP9, hD9⟩, hS.F ht⟩) hS.2.2 dX3_init_42

set_option maxHeartbeats 4000000 in
set_option maxRecDepth 100000 in
/-- Reader(nodes, text) -/
theorem c_X4_init (l : Launch) (dC : Nat → ClassId) (dI : Nat → Nat → Nat) (cI cZ cL : ClassId) (h0 : Nat) (sz : Nat) (n0 x0 : Nat) : Met l yX4_init (wd yX4_init cX4_init 3 none) ({ frames := 1, cells := 2, slots := 86, locals := 12 }) (va_Pc [.ref h0, .ref n0, .ref x0] (hp dC dI cI cZ cL sz [(h0, .inr (4, [.null, .null, .null, .null, .int 0, .int 0, .int 0, .int 0, .int 0]))])) (va_Qv (fun (_ : Unit) => True) (fun (_ : Unit) t => ∃ q1 : Nat, ∃ q2 : Nat, va_P (dC, dI) vwCl [(h0, .inr (4, [.ref n0, .ref x0, .ref q1, .ref q2, .int 0, .int 0, .int 0, .int 0, .int (-1)])), (q1, .inl (cI, 26, .inl zI)), (q2, .inl (cI, 60, .inl zI))] t.heap ∧ va_D (va_A [(h0, .inr (4, [.null, .null, .null, .null, .int 0, .int 0, .int 0, .int 0, .int 0]))] sz) [(h0, .inr (4, [.ref n0, .ref x0, .ref q1, .ref q2, .int 0, .int 0, .int 0, .int 0, .int (-1)])), (q1, .inl (cI, 26, .inl zI)), (q2, .inl (cI, 60, .inl zI))]) (va_A [(h0, .inr (4, [.null, .null, .null, .null, .int 0, .int 0, .int 0, .int 0, .int 0]))] sz)) 2 86 (va_A [(h0, .inr (4, [.null, .null, .null, .null, .int 0, .int 0, .int 0, .int 0, .int 0]))] sz) := by
  refine Met.ofW (cc := cX4_init) (maxL := 3) (ret := none) (by decide) rfl ?_
  intro p e s m args below meth c s₁ B hml hv
  obtain ⟨rfl, hsz, hP, hK, hD0⟩ := hv
  have hx := B.exec
  have hb := B.bytes
  have hr := B.returns
  have hw9 := atoms_spec (ws := (wd yX4_init cX4_init 3 none)) B.pre
  have hg := gw_hts hw9
  have hown : s.vm.findClass RX4 = some m.cls := findClass_of_methodNamed B.named
  have hlocks := B.notSynchronized
  have hin : meth.name = "<init>" := (name_of_methodNamed B.named B.method).1
  subst hsz
  have hD := hD0.self (sz := s.heap.size)
  generalize hAe : va_A [(h0, .inr (4, [.null, .null, .null, .null, .int 0, .int 0, .int 0, .int 0, .int 0]))] s.heap.size = A at hD ⊢
  have hA : ∀ q : Nat, s.heap.size ≤ q → A q := fun q h => by rw [← hAe]; exact Or.inr h
  have hS : va_S A s.heap s.heap [] := va_S.rf
  have hl := lv_entry ([.ref h0, .ref n0, .ref x0]) (n := 3) (Nat.le_of_ble_eq_true rfl)
  rw [lg_entry_eq]
  generalize (lg_sl ([.ref h0, .ref n0, .ref x0]) ++ List.replicate (3 - (lg_sl ([.ref h0, .ref n0, .ref x0])).length) Slot.unset).toArray = ls at hl ⊢
  have hl : lv_has ls 3 [(0, .ref h0), (1, .ref n0), (2, .ref x0)] := hl
  refine lv_aload_n hx hb dX4_init_0 rfl (lv_at hl 0 rfl) ?_
  refine W.objInit hx hb hown (hg _ k_60) (hg _ k_9) (hg _ k_10) rfl (by rw [hml]; exact hl.1) rfl dX4_init_1 (Nat.le_of_ble_eq_true rfl) (Nat.le_of_ble_eq_true rfl) ?_
  refine W.eq (g2 := F0 m 4 ls []) rfl ?_
  refine lv_aload_n hx hb dX4_init_4 rfl (lv_at hl 0 rfl) ?_
  refine lv_bipush (v := 26) hx hb dX4_init_5 (by decide) ?_
  refine va_newa (atype := .int) (ty := .int) (N' := 26) (a0 := (26, .inl zI)) hx hb (hg _ k_11) rfl hK hP hD hS hA (fun _ => rfl) (by decide) (by decide) (by decide) (Nat.le_of_ble_eq_true rfl) (Nat.le_of_ble_eq_true rfl) dX4_init_7 (fun q1 cA H hK1 hP hD hS => ?_)
  obtain rfl := ty_int hK1
  have hP : va_P (dC, dI) vwCl [(h0, .inr (4, [.null, .null, .null, .null, .int 0, .int 0, .int 0, .int 0, .int 0])), (q1, .inl (cI, 26, .inl zI))] H := hP
  have hD : va_D A [(h0, .inr (4, [.null, .null, .null, .null, .int 0, .int 0, .int 0, .int 0, .int 0])), (q1, .inl (cI, 26, .inl zI))] := hD
  refine W.widen (k := 1) (n := 26) (Nat.le_of_ble_eq_true rfl) (Nat.le_of_ble_eq_true rfl) ?_
  refine va_putF (D := (dC, dI)) (ci := 4) (v := .ref q1) (ty := .array .int) (C := RX4) (T := TX4) (N := 9) hx hb hg i_X4 tyX4 tyX4_ok nmX4 hown hK hP hD hS 0 rfl rfl 2 (by decide) (hg _ k_61) (fun _ h9 => h9) rfl hin rfl (by decide +kernel) rfl rfl (Nat.le_of_ble_eq_true rfl) dX4_init_9 (fun H locs hP hD hS => ?_)
  have hP : va_P (dC, dI) vwCl [(h0, .inr (4, [.null, .null, .ref q1, .null, .int 0, .int 0, .int 0, .int 0, .int 0])), (q1, .inl (cI, 26, .inl zI))] H := hP
  have hD : va_D A [(h0, .inr (4, [.null, .null, .ref q1, .null, .int 0, .int 0, .int 0, .int 0, .int 0])), (q1, .inl (cI, 26, .inl zI))] := hD
  refine lv_aload_n hx hb dX4_init_12 rfl (lv_at hl 0 rfl) ?_
  refine lv_bipush (v := 60) hx hb dX4_init_13 (by decide) ?_
  refine va_newa (atype := .int) (ty := .int) (N' := 60) (a0 := (60, .inl zI)) hx hb (hg _ k_11) rfl hK hP hD hS hA (fun _ => rfl) (by decide) (by decide) (by decide) (Nat.le_of_ble_eq_true rfl) (Nat.le_of_ble_eq_true rfl) dX4_init_15 (fun q2 cA H hK1 hP hD hS => ?_)
  obtain rfl := ty_int hK1
  have hP : va_P (dC, dI) vwCl [(h0, .inr (4, [.null, .null, .ref q1, .null, .int 0, .int 0, .int 0, .int 0, .int 0])), (q1, .inl (cI, 26, .inl zI)), (q2, .inl (cI, 60, .inl zI))] H := hP
  have hD : va_D A [(h0, .inr (4, [.null, .null, .ref q1, .null, .int 0, .int 0, .int 0, .int 0, .int 0])), (q1, .inl (cI, 26, .inl zI)), (q2, .inl (cI, 60, .inl zI))] := hD
  refine W.widen (k := 2) (n := 86) (Nat.le_of_ble_eq_true rfl) (Nat.le_of_ble_eq_true rfl) ?_
  refine va_putF (D := (dC, dI)) (ci := 4) (v := .ref q2) (ty := .array .int) (C := RX4) (T := TX4) (N := 9) hx hb hg i_X4 tyX4 tyX4_ok nmX4 hown hK hP hD hS 0 rfl rfl 3 (by decide) (hg _ k_62) (fun _ h9 => h9) rfl hin rfl (by decide +kernel) rfl rfl (Nat.le_of_ble_eq_true rfl) dX4_init_17 (fun H locs hP hD hS => ?_)
  have hP : va_P (dC, dI) vwCl [(h0, .inr (4, [.null, .null, .ref q1, .ref q2, .int 0, .int 0, .int 0, .int 0, .int 0])), (q1, .inl (cI, 26, .inl zI)), (q2, .inl (cI, 60, .inl zI))] H := hP
  have hD : va_D A [(h0, .inr (4, [.null, .null, .ref q1, .ref q2, .int 0, .int 0, .int 0, .int 0, .int 0])), (q1, .inl (cI, 26, .inl zI)), (q2, .inl (cI, 60, .inl zI))] := hD
  refine lv_aload_n hx hb dX4_init_20 rfl (lv_at hl 0 rfl) ?_
  refine lv_iconst (v := 0) hx hb dX4_init_21 (by decide) ?_
  refine va_put (D := (dC, dI)) (ci := 4) (v := .int 0) (ty := .int) (C := RX4) (T := TX4) (N := 9) hx hb hg i_X4 tyX4 tyX4_ok nmX4 hown hK hP hD hS 0 rfl rfl 4 (by decide) (hg _ k_63) (fun _ h9 => h9) rfl (by decide +kernel) rfl rfl (Nat.le_of_ble_eq_true rfl) dX4_init_22 (fun H locs hP hD hS => ?_)
  have hP : va_P (dC, dI) vwCl [(h0, .inr (4, [.null, .null, .ref q1, .ref q2, .int 0, .int 0, .int 0, .int 0, .int 0])), (q1, .inl (cI, 26, .inl zI)), (q2, .inl (cI, 60, .inl zI))] H := hP
  have hD : va_D A [(h0, .inr (4, [.null, .null, .ref q1, .ref q2, .int 0, .int 0, .int 0, .int 0, .int 0])), (q1, .inl (cI, 26, .inl zI)), (q2, .inl (cI, 60, .inl zI))] := hD
  refine lv_aload_n hx hb dX4_init_25 rfl (lv_at hl 0 rfl) ?_
  refine lv_iconst (v := 0) hx hb dX4_init_26 (by decide) ?_
  refine va_put (D := (dC, dI)) (ci := 4) (v := .int 0) (ty := .int) (C := RX4) (T := TX4) (N := 9) hx hb hg i_X4 tyX4 tyX4_ok nmX4 hown hK hP hD hS 0 rfl rfl 5 (by decide) (hg _ k_64) (fun _ h9 => h9) rfl (by decide +kernel) rfl rfl (Nat.le_of_ble_eq_true rfl) dX4_init_27 (fun H locs hP hD hS => ?_)
  have hP : va_P (dC, dI) vwCl [(h0, .inr (4, [.null, .null, .ref q1, .ref q2, .int 0, .int 0, .int 0, .int 0, .int 0])), (q1, .inl (cI, 26, .inl zI)), (q2, .inl (cI, 60, .inl zI))] H := hP
  have hD : va_D A [(h0, .inr (4, [.null, .null, .ref q1, .ref q2, .int 0, .int 0, .int 0, .int 0, .int 0])), (q1, .inl (cI, 26, .inl zI)), (q2, .inl (cI, 60, .inl zI))] := hD
  refine lv_aload_n hx hb dX4_init_30 rfl (lv_at hl 0 rfl) ?_
  refine lv_iconst (v := 0) hx hb dX4_init_31 (by decide) ?_
  refine va_put (D := (dC, dI)) (ci := 4) (v := .int 0) (ty := .int) (C := RX4) (T := TX4) (N := 9) hx hb hg i_X4 tyX4 tyX4_ok nmX4 hown hK hP hD hS 0 rfl rfl 6 (by decide) (hg _ k_65) (fun _ h9 => h9) rfl (by decide +kernel) rfl rfl (Nat.le_of_ble_eq_true rfl) dX4_init_32 (fun H locs hP hD hS => ?_)
  have hP : va_P (dC, dI) vwCl [(h0, .inr (4, [.null, .null, .ref q1, .ref q2, .int 0, .int 0, .int 0, .int 0, .int 0])), (q1, .inl (cI, 26, .inl zI)), (q2, .inl (cI, 60, .inl zI))] H := hP
  have hD : va_D A [(h0, .inr (4, [.null, .null, .ref q1, .ref q2, .int 0, .int 0, .int 0, .int 0, .int 0])), (q1, .inl (cI, 26, .inl zI)), (q2, .inl (cI, 60, .inl zI))] := hD
  refine lv_aload_n hx hb dX4_init_35 rfl (lv_at hl 0 rfl) ?_
  refine lv_iconst (v := 0) hx hb dX4_init_36 (by decide) ?_
  refine va_put (D := (dC, dI)) (ci := 4) (v := .int 0) (ty := .int) (C := RX4) (T := TX4) (N := 9) hx hb hg i_X4 tyX4 tyX4_ok nmX4 hown hK hP hD hS 0 rfl rfl 7 (by decide) (hg _ k_66) (fun _ h9 => h9) rfl (by decide +kernel) rfl rfl (Nat.le_of_ble_eq_true rfl) dX4_init_37 (fun H locs hP hD hS => ?_)
  have hP : va_P (dC, dI) vwCl [(h0, .inr (4, [.null, .null, .ref q1, .ref q2, .int 0, .int 0, .int 0, .int 0, .int 0])), (q1, .inl (cI, 26, .inl zI)), (q2, .inl (cI, 60, .inl zI))] H := hP
  have hD : va_D A [(h0, .inr (4, [.null, .null, .ref q1, .ref q2, .int 0, .int 0, .int 0, .int 0, .int 0])), (q1, .inl (cI, 26, .inl zI)), (q2, .inl (cI, 60, .inl zI))] := hD
  refine lv_aload_n hx hb dX4_init_40 rfl (lv_at hl 0 rfl) ?_
  refine lv_iconst (v := (-1)) hx hb dX4_init_41 (by decide) ?_
  refine va_put (D := (dC, dI)) (ci := 4) (v := .int (-1)) (ty := .int) (C := RX4) (T := TX4) (N := 9) hx hb hg i_X4 tyX4 tyX4_ok nmX4 hown hK hP hD hS 0 rfl rfl 8 (by decide) (hg _ k_67) (fun _ h9 => h9) rfl (by decide +kernel) rfl rfl (Nat.le_of_ble_eq_true rfl) dX4_init_42 (fun H locs hP hD hS => ?_)
  have hP : va_P (dC, dI) vwCl [(h0, .inr (4, [.null, .null, .ref q1, .ref q2, .int 0, .int 0, .int 0, .int 0, .int (-1)])), (q1, .inl (cI, 26, .inl zI)), (q2, .inl (cI, 60, .inl zI))] H := hP
  have hD : va_D A [(h0, .inr (4, [.null, .null, .ref q1, .ref q2, .int 0, .int 0, .int 0, .int 0, .int (-1)])), (q1, .inl (cI, 26, .inl zI)), (q2, .inl (cI, 60, .inl zI))] := hD
  refine lv_aload_n hx hb dX4_init_45 rfl (lv_at hl 0 rfl) ?_
  refine lv_aload_n hx hb dX4_init_46 rfl (lv_at hl 1 rfl) ?_
  refine va_putF (D := (dC, dI)) (ci := 4) (v := .ref n0) (ty := .object "TypeBench$Nodes") (C := RX4) (T := TX4) (N := 9) hx hb hg i_X4 tyX4 tyX4_ok nmX4 hown hK hP hD hS 0 rfl rfl 0 (by decide) (hg _ k_68) (fun _ h9 => h9) rfl hin rfl (by decide +kernel) rfl rfl (Nat.le_of_ble_eq_true rfl) dX4_init_47 (fun H locs hP hD hS => ?_)
  have hP : va_P (dC, dI) vwCl [(h0, .inr (4, [.ref n0, .null, .ref q1, .ref q2, .int 0, .int 0, .int 0, .int 0, .int (-1)])), (q1, .inl (cI, 26, .inl zI)), (q2, .inl (cI, 60, .inl zI))] H := hP
  have hD : va_D A [(h0, .inr (4, [.ref n0, .null, .ref q1, .ref q2, .int 0, .int 0, .int 0, .int 0, .int (-1)])), (q1, .inl (cI, 26, .inl zI)), (q2, .inl (cI, 60, .inl zI))] := hD
  refine lv_aload_n hx hb dX4_init_50 rfl (lv_at hl 0 rfl) ?_
  refine lv_aload_n hx hb dX4_init_51 rfl (lv_at hl 2 rfl) ?_
  refine va_putF (D := (dC, dI)) (ci := 4) (v := .ref x0) (ty := .array .int) (C := RX4) (T := TX4) (N := 9) hx hb hg i_X4 tyX4 tyX4_ok nmX4 hown hK hP hD hS 0 rfl rfl 1 (by decide) (hg _ k_69) (fun _ h9 => h9) rfl hin rfl (by decide +kernel) rfl rfl (Nat.le_of_ble_eq_true rfl) dX4_init_52 (fun H locs hP hD hS => ?_)
  have hP : va_P (dC, dI) vwCl [(h0, .inr (4, [.ref n0, .ref x0, .ref q1, .ref q2, .int 0, .int 0, .int 0, .int 0, .int (-1)])), (q1, .inl (cI, 26, .inl zI)), (q2, .inl (cI, 60, .inl zI))] H := hP
  have hD : va_D A [(h0, .inr (4, [.ref n0, .ref x0, .ref q1, .ref q2, .int 0, .int 0, .int 0, .int 0, .int (-1)])), (q1, .inl (cI, 26, .inl zI)), (q2, .inl (cI, 60, .inl zI))] := hD
  have hP9 := hP.sub (ws' := [(h0, .inr (4, [.ref n0, .ref x0, .ref q1, .ref q2, .int 0, .int 0, .int 0, .int 0, .int (-1)])), (q1, .inl (cI, 26, .inl zI)), (q2, .inl (cI, 60, .inl zI))]) [0, 1, 2] rfl
  have hD9 := hD.sub (ws' := [(h0, .inr (4, [.ref n0, .ref x0, .ref q1, .ref q2, .int 0, .int 0, .int 0, .int 0, .int (-1)])), (q1, .inl (cI, 26, .inl zI)), (q2, .inl (cI, 60, .inl zI))]) [0, 1, 2] (by decide) rfl
  refine W.widen (k := 2) (n := 86) (Nat.le_of_ble_eq_true rfl) (Nat.le_of_ble_eq_true rfl) ?_
  exact W.vret hx hb hr (fun t ht hW => ⟨⟨(), rfl, trivial, q1, q2, by rw [ht]; exact hP9, hD9⟩, hS.F ht⟩) hS.2.2 dX4_init_55

set_option maxHeartbeats 4000000 in
set_option maxRecDepth 100000 in
/-- TypeBench() -/
theorem c_X6_init (l : Launch) (dC : Nat → ClassId) (dI : Nat → Nat → Nat) (cI cZ cL : ClassId) (h0 : Nat) (sz : Nat)  : Met l yX6_init (wd yX6_init cX6_init 1 none) ({ frames := 3, cells := 23, slots := 48316, locals := 55 }) (va_Pc [.ref h0] (hpn dC dI cI cZ cL sz [(h0, .inr (6, [.null, .int 0, .int 0, .null, .null, .null, .null]))])) (va_Qv (fun (_ : Unit) => True) (fun (_ : Unit) t => ∃ q1 : Nat, ∃ q2 : Nat, ∃ q3 : Nat, ∃ q4 : Nat, ∃ q5 : Nat, ∃ q6 : Nat, ∃ q7 : Nat, ∃ q8 : Nat, ∃ q9 : Nat, ∃ q10 : Nat, ∃ q11 : Nat, ∃ q12 : Nat, ∃ q13 : Nat, ∃ q14 : Nat, ∃ q15 : Nat, ∃ q16 : Nat, ∃ q17 : Nat, ∃ q18 : Nat, ∃ q19 : Nat, ∃ q20 : Nat, ∃ q21 : Nat, ∃ q22 : Nat, ∃ q23 : Nat, va_P (dC, dI) vwCl [(h0, .inr (6, [.ref q1, .int 0, .int (-1), .ref q2, .ref q8, .ref q11, .ref q21])), (q1, .inl (cI, 60, .inl zI)), (q2, .inr (2, [.ref q3, .ref q4, .ref q5, .ref q6, .ref q7, .int 0])), (q3, .inl (cI, 4096, .inl zI)), (q4, .inl (cI, 4096, .inl zI)), (q5, .inl (cI, 4096, .inl zI)), (q6, .inl (cI, 4096, .inl zI)), (q7, .inl (cZ, 4096, .inl zI)), (q8, .inr (4, [.ref q2, .ref q1, .ref q9, .ref q10, .int 0, .int 0, .int 0, .int 0, .int (-1)])), (q9, .inl (cI, 26, .inl zI)), (q10, .inl (cI, 60, .inl zI)), (q11, .inr (1, [.ref q2, .ref q15, .ref q18, .ref q12, .ref q13, .ref q14, .int 0, .int 0, .int (-1), .int 0, .int 0])), (q12, .inl (cI, 1024, .inl zI)), (q13, .inl (cI, 1024, .inl zI)), (q14, .inl (cI, 1024, .inl zI)), (q15, .inr (0, [.ref q2, .ref q16, .ref q17, .int 0])), (q16, .inl (cI, 4096, .inl zI)), (q17, .inl (cI, 4096, .inl zI)), (q18, .inr (5, [.ref q2, .ref q15, .ref q19, .ref q20, .int 0, .int 0])), (q19, .inl (cI, 4096, .inl zI)), (q20, .inl (cI, 4096, .inl zI)), (q21, .inr (3, [.ref q2, .ref q22, .ref q23, .int 0, .int (-1), .int 0])), (q22, .inl (cI, 4096, .inl zI)), (q23, .inl (cI, 4096, .inl zI))] t.heap ∧ va_D (va_A [(h0, .inr (6, [.null, .int 0, .int 0, .null, .null, .null, .null]))] sz) [(h0, .inr (6, [.ref q1, .int 0, .int (-1), .ref q2, .ref q8, .ref q11, .ref q21])), (q1, .inl (cI, 60, .inl zI)), (q2, .inr (2, [.ref q3, .ref q4, .ref q5, .ref q6, .ref q7, .int 0])), (q3, .inl (cI, 4096, .inl zI)), (q4, .inl (cI, 4096, .inl zI)), (q5, .inl (cI, 4096, .inl zI)), (q6, .inl (cI, 4096, .inl zI)), (q7, .inl (cZ, 4096, .inl zI)), (q8, .inr (4, [.ref q2, .ref q1, .ref q9, .ref q10, .int 0, .int 0, .int 0, .int 0, .int (-1)])), (q9, .inl (cI, 26, .inl zI)), (q10, .inl (cI, 60, .inl zI)), (q11, .inr (1, [.ref q2, .ref q15, .ref q18, .ref q12, .ref q13, .ref q14, .int 0, .int 0, .int (-1), .int 0, .int 0])), (q12, .inl (cI, 1024, .inl zI)), (q13, .inl (cI, 1024, .inl zI)), (q14, .inl (cI, 1024, .inl zI)), (q15, .inr (0, [.ref q2, .ref q16, .ref q17, .int 0])), (q16, .inl (cI, 4096, .inl zI)), (q17, .inl (cI, 4096, .inl zI)), (q18, .inr (5, [.ref q2, .ref q15, .ref q19, .ref q20, .int 0, .int 0])), (q19, .inl (cI, 4096, .inl zI)), (q20, .inl (cI, 4096, .inl zI)), (q21, .inr (3, [.ref q2, .ref q22, .ref q23, .int 0, .int (-1), .int 0])), (q22, .inl (cI, 4096, .inl zI)), (q23, .inl (cI, 4096, .inl zI))]) (va_A [(h0, .inr (6, [.null, .int 0, .int 0, .null, .null, .null, .null]))] sz)) 23 48316 (va_A [(h0, .inr (6, [.null, .int 0, .int 0, .null, .null, .null, .null]))] sz) := by
  refine Met.ofW (cc := cX6_init) (maxL := 1) (ret := none) (by decide) rfl ?_
  intro p e s m args below meth c s₁ B hml hv
  obtain ⟨rfl, hsz, hP, hK, hD0, hNw⟩ := hv
  have hx := B.exec
  have hb := B.bytes
  have hr := B.returns
  have hw9 := atoms_spec (ws := (wd yX6_init cX6_init 1 none)) B.pre
  have hg := gw_hts hw9
  have hown : s.vm.findClass RX6 = some m.cls := findClass_of_methodNamed B.named
  have hlocks := B.notSynchronized
  have hin : meth.name = "<init>" := (name_of_methodNamed B.named B.method).1
  subst hsz
  have hD := hD0.self (sz := s.heap.size)
  generalize hAe : va_A [(h0, .inr (6, [.null, .int 0, .int 0, .null, .null, .null, .null]))] s.heap.size = A at hD ⊢
  have hA : ∀ q : Nat, s.heap.size ≤ q → A q := fun q h => by rw [← hAe]; exact Or.inr h
  have hS : va_S A s.heap s.heap [] := va_S.rf
  have hl := lv_entry ([.ref h0]) (n := 1) (Nat.le_of_ble_eq_true rfl)
  rw [lg_entry_eq]
  generalize (lg_sl ([.ref h0]) ++ List.replicate (1 - (lg_sl ([.ref h0])).length) Slot.unset).toArray = ls at hl ⊢
  have hl : lv_has ls 1 [(0, .ref h0)] := hl
  refine lv_aload_n hx hb dX6_init_0 rfl (lv_at hl 0 rfl) ?_
  refine W.objInit hx hb hown (hg _ k_70) (hg _ k_9) (hg _ k_10) rfl (by rw [hml]; exact hl.1) rfl dX6_init_1 (Nat.le_of_ble_eq_true rfl) (Nat.le_of_ble_eq_true rfl) ?_
  refine W.eq (g2 := F0 m 4 ls []) rfl ?_
  refine lv_aload_n hx hb dX6_init_4 rfl (lv_at hl 0 rfl) ?_
  refine lv_bipush (v := 60) hx hb dX6_init_5 (by decide) ?_
  refine va_newa (atype := .int) (ty := .int) (N' := 60) (a0 := (60, .inl zI)) hx hb (hg _ k_11) rfl hK hP hD hS hA (fun _ => rfl) (by decide) (by decide) (by decide) (Nat.le_of_ble_eq_true rfl) (Nat.le_of_ble_eq_true rfl) dX6_init_7 (fun q1 cA H hK1 hP hD hS => ?_)
  obtain rfl := ty_int hK1
  have hP : va_P (dC, dI) vwCl [(h0, .inr (6, [.null, .int 0, .int 0, .null, .null, .null, .null])), (q1, .inl (cI, 60, .inl zI))] H := hP
  have hD : va_D A [(h0, .inr (6, [.null, .int 0, .int 0, .null, .null, .null, .null])), (q1, .inl (cI, 60, .inl zI))] := hD
  refine W.widen (k := 1) (n := 60) (Nat.le_of_ble_eq_true rfl) (Nat.le_of_ble_eq_true rfl) ?_
  refine va_putF (D := (dC, dI)) (ci := 6) (v := .ref q1) (ty := .array .int) (C := RX6) (T := TX6) (N := 7) hx hb hg i_X6 tyX6 tyX6_ok nmX6 hown hK hP hD hS 0 rfl rfl 0 (by decide) (hg _ k_71) (fun _ h9 => h9) rfl hin rfl (by decide +kernel) rfl rfl (Nat.le_of_ble_eq_true rfl) dX6_init_9 (fun H locs hP hD hS => ?_)
  have hP : va_P (dC, dI) vwCl [(h0, .inr (6, [.ref q1, .int 0, .int 0, .null, .null, .null, .null])), (q1, .inl (cI, 60, .inl zI))] H := hP
  have hD : va_D A [(h0, .inr (6, [.ref q1, .int 0, .int 0, .null, .null, .null, .null])), (q1, .inl (cI, 60, .inl zI))] := hD
  refine lv_aload_n hx hb dX6_init_12 rfl (lv_at hl 0 rfl) ?_
  refine lv_iconst (v := 0) hx hb dX6_init_13 (by decide) ?_
  refine va_put (D := (dC, dI)) (ci := 6) (v := .int 0) (ty := .int) (C := RX6) (T := TX6) (N := 7) hx hb hg i_X6 tyX6 tyX6_ok nmX6 hown hK hP hD hS 0 rfl rfl 1 (by decide) (hg _ k_72) (fun _ h9 => h9) rfl (by decide +kernel) rfl rfl (Nat.le_of_ble_eq_true rfl) dX6_init_14 (fun H locs hP hD hS => ?_)
  have hP : va_P (dC, dI) vwCl [(h0, .inr (6, [.ref q1, .int 0, .int 0, .null, .null, .null, .null])), (q1, .inl (cI, 60, .inl zI))] H := hP
  have hD : va_D A [(h0, .inr (6, [.ref q1, .int 0, .int 0, .null, .null, .null, .null])), (q1, .inl (cI, 60, .inl zI))] := hD
  refine lv_aload_n hx hb dX6_init_17 rfl (lv_at hl 0 rfl) ?_
  refine lv_iconst (v := (-1)) hx hb dX6_init_18 (by decide) ?_
  refine va_put (D := (dC, dI)) (ci := 6) (v := .int (-1)) (ty := .int) (C := RX6) (T := TX6) (N := 7) hx hb hg i_X6 tyX6 tyX6_ok nmX6 hown hK hP hD hS 0 rfl rfl 2 (by decide) (hg _ k_73) (fun _ h9 => h9) rfl (by decide +kernel) rfl rfl (Nat.le_of_ble_eq_true rfl) dX6_init_19 (fun H locs hP hD hS => ?_)
  have hP : va_P (dC, dI) vwCl [(h0, .inr (6, [.ref q1, .int 0, .int (-1), .null, .null, .null, .null])), (q1, .inl (cI, 60, .inl zI))] H := hP
  have hD : va_D A [(h0, .inr (6, [.ref q1, .int 0, .int (-1), .null, .null, .null, .null])), (q1, .inl (cI, 60, .inl zI))] := hD
  refine lv_aload_n hx hb dX6_init_22 rfl (lv_at hl 0 rfl) ?_
  refine va_new (ci := 2) (fs := [.null, .null, .null, .null, .null, .int 0]) (C := RX2) (T := TX2) (N := 6) hx hb hg i_X2 tyX2 tyX2_ok hown (hg _ k_74) (hg _ k_75) (hg _ k_76) hK hP hD hS hA rfl (df_X2) (Nat.le_of_ble_eq_true rfl) (Nat.le_of_ble_eq_true rfl) dX6_init_23 (fun q2 H hP hD hS => ?_)
  have hP : va_P (dC, dI) vwCl [(h0, .inr (6, [.ref q1, .int 0, .int (-1), .null, .null, .null, .null])), (q1, .inl (cI, 60, .inl zI)), (q2, .inr (2, [.null, .null, .null, .null, .null, .int 0]))] H := hP
  have hD : va_D A [(h0, .inr (6, [.ref q1, .int 0, .int (-1), .null, .null, .null, .null])), (q1, .inl (cI, 60, .inl zI)), (q2, .inr (2, [.null, .null, .null, .null, .null, .int 0]))] := hD
  refine W.widen (k := 2) (n := 66) (Nat.le_of_ble_eq_true rfl) (Nat.le_of_ble_eq_true rfl) ?_
  refine lv_dup hx hb dX6_init_26 rfl ?_
  have hPc := hP.sub (ws' := [(q2, .inr (2, [.null, .null, .null, .null, .null, .int 0]))]) [2] rfl
  have hDc := hD.sub (ws' := [(q2, .inr (2, [.null, .null, .null, .null, .null, .int 0]))]) [2] (by decide) rfl
  have hFc := va_free (wc := [(q2, .inr (2, [.null, .null, .null, .null, .null, .int 0]))]) hD hS hA [2] rfl
  refine va_callv (va_runIN (As := []) (rest := [.ref q2, .ref h0]) ⟨hx, hb, hml, hown, hg⟩ (c_X2_init l dC dI cI cZ cL q2 (Array.size _)) ⟨va_cnB 0 hg g_yX2_init rfl rfl rfl hNw (hg _ k_76) (by decide +kernel) ⟨(Nat.le_of_ble_eq_true rfl), (Nat.le_of_ble_eq_true rfl)⟩, rfl, hg _ k_77⟩ ⟨hp_bl, fun U hU hW => hp_ok hU hW hPc hK hDc⟩ rfl rfl hl.1 rfl (lv_room (Nat.le_of_ble_eq_true rfl)) dX6_init_27 ⟨(Nat.le_of_ble_eq_true rfl), (Nat.le_of_ble_eq_true rfl)⟩) hS (fun q _ h => hFc q h) hFc (fun u t H locs ht hvm hw hB hz1 hk1 hS => ?_)
  obtain ⟨q3, q4, q5, q6, q7, hP1, hD1⟩ := hB
  rw [ht] at hP1
  obtain ⟨hP, hD⟩ := va_join (wr := [(h0, .inr (6, [.ref q1, .int 0, .int (-1), .null, .null, .null, .null])), (q1, .inl (cI, 60, .inl zI))]) (w1 := [(q2, .inr (2, [.ref q3, .ref q4, .ref q5, .ref q6, .ref q7, .int 0])), (q3, .inl (cI, 4096, .inl zI)), (q4, .inl (cI, 4096, .inl zI)), (q5, .inl (cI, 4096, .inl zI)), (q6, .inl (cI, 4096, .inl zI)), (q7, .inl (cZ, 4096, .inl zI))]) hP hD [2] [0, 1] rfl rfl (by decide) (by decide) hk1 hFc hP1 hD1
  have hP : va_P (dC, dI) vwCl [(h0, .inr (6, [.ref q1, .int 0, .int (-1), .null, .null, .null, .null])), (q1, .inl (cI, 60, .inl zI)), (q2, .inr (2, [.ref q3, .ref q4, .ref q5, .ref q6, .ref q7, .int 0])), (q3, .inl (cI, 4096, .inl zI)), (q4, .inl (cI, 4096, .inl zI)), (q5, .inl (cI, 4096, .inl zI)), (q6, .inl (cI, 4096, .inl zI)), (q7, .inl (cZ, 4096, .inl zI))] H := hP
  have hD : va_D A [(h0, .inr (6, [.ref q1, .int 0, .int (-1), .null, .null, .null, .null])), (q1, .inl (cI, 60, .inl zI)), (q2, .inr (2, [.ref q3, .ref q4, .ref q5, .ref q6, .ref q7, .int 0])), (q3, .inl (cI, 4096, .inl zI)), (q4, .inl (cI, 4096, .inl zI)), (q5, .inl (cI, 4096, .inl zI)), (q6, .inl (cI, 4096, .inl zI)), (q7, .inl (cZ, 4096, .inl zI))] := hD
  refine W.widen (k := 7) (n := 20546) (Nat.le_of_ble_eq_true rfl) (Nat.le_of_ble_eq_true rfl) ?_
  refine va_putF (D := (dC, dI)) (ci := 6) (v := .ref q2) (ty := .object "TypeBench$Nodes") (C := RX6) (T := TX6) (N := 7) hx hb hg i_X6 tyX6 tyX6_ok nmX6 hown hK hP hD hS 0 rfl rfl 3 (by decide) (hg _ k_78) (fun _ h9 => h9) rfl hin rfl (by decide +kernel) rfl rfl (Nat.le_of_ble_eq_true rfl) dX6_init_30 (fun H locs hP hD hS => ?_)
  have hP : va_P (dC, dI) vwCl [(h0, .inr (6, [.ref q1, .int 0, .int (-1), .ref q2, .null, .null, .null])), (q1, .inl (cI, 60, .inl zI)), (q2, .inr (2, [.ref q3, .ref q4, .ref q5, .ref q6, .ref q7, .int 0])), (q3, .inl (cI, 4096, .inl zI)), (q4, .inl (cI, 4096, .inl zI)), (q5, .inl (cI, 4096, .inl zI)), (q6, .inl (cI, 4096, .inl zI)), (q7, .inl (cZ, 4096, .inl zI))] H := hP
  have hD : va_D A [(h0, .inr (6, [.ref q1, .int 0, .int (-1), .ref q2, .null, .null, .null])), (q1, .inl (cI, 60, .inl zI)), (q2, .inr (2, [.ref q3, .ref q4, .ref q5, .ref q6, .ref q7, .int 0])), (q3, .inl (cI, 4096, .inl zI)), (q4, .inl (cI, 4096, .inl zI)), (q5, .inl (cI, 4096, .inl zI)), (q6, .inl (cI, 4096, .inl zI)), (q7, .inl (cZ, 4096, .inl zI))] := hD
  refine lv_aload_n hx hb dX6_init_33 rfl (lv_at hl 0 rfl) ?_
  refine va_new (ci := 4) (fs := [.null, .null, .null, .null, .int 0, .int 0, .int 0, .int 0, .int 0]) (C := RX4) (T := TX4) (N := 9) hx hb hg i_X4 tyX4 tyX4_ok hown (hg _ k_79) (hg _ k_80) (hg _ k_81) hK hP hD hS hA rfl (df_X4) (Nat.le_of_ble_eq_true rfl) (Nat.le_of_ble_eq_true rfl) dX6_init_34 (fun q8 H hP hD hS => ?_)
  have hP : va_P (dC, dI) vwCl [(h0, .inr (6, [.ref q1, .int 0, .int (-1), .ref q2, .null, .null, .null])), (q1, .inl (cI, 60, .inl zI)), (q2, .inr (2, [.ref q3, .ref q4, .ref q5, .ref q6, .ref q7, .int 0])), (q3, .inl (cI, 4096, .inl zI)), (q4, .inl (cI, 4096, .inl zI)), (q5, .inl (cI, 4096, .inl zI)), (q6, .inl (cI, 4096, .inl zI)), (q7, .inl (cZ, 4096, .inl zI)), (q8, .inr (4, [.null, .null, .null, .null, .int 0, .int 0, .int 0, .int 0, .int 0]))] H := hP
  have hD : va_D A [(h0, .inr (6, [.ref q1, .int 0, .int (-1), .ref q2, .null, .null, .null])), (q1, .inl (cI, 60, .inl zI)), (q2, .inr (2, [.ref q3, .ref q4, .ref q5, .ref q6, .ref q7, .int 0])), (q3, .inl (cI, 4096, .inl zI)), (q4, .inl (cI, 4096, .inl zI)), (q5, .inl (cI, 4096, .inl zI)), (q6, .inl (cI, 4096, .inl zI)), (q7, .inl (cZ, 4096, .inl zI)), (q8, .inr (4, [.null, .null, .null, .null, .int 0, .int 0, .int 0, .int 0, .int 0]))] := hD
  refine W.widen (k := 8) (n := 20555) (Nat.le_of_ble_eq_true rfl) (Nat.le_of_ble_eq_true rfl) ?_
  refine lv_dup hx hb dX6_init_37 rfl ?_
  refine lv_aload_n hx hb dX6_init_38 rfl (lv_at hl 0 rfl) ?_
  refine va_get (D := (dC, dI)) (ci := 6) (v := .ref q2) (C := RX6) (T := TX6) (N := 7) hx hb hg i_X6 hown hK hP 0 rfl rfl 3 (by decide) (hg _ k_78) (fun _ h9 => h9) rfl dX6_init_39 ?_
  refine lv_aload_n hx hb dX6_init_42 rfl (lv_at hl 0 rfl) ?_
  refine va_get (D := (dC, dI)) (ci := 6) (v := .ref q1) (C := RX6) (T := TX6) (N := 7) hx hb hg i_X6 hown hK hP 0 rfl rfl 0 (by decide) (hg _ k_71) (fun _ h9 => h9) rfl dX6_init_43 ?_
  have hPc := hP.sub (ws' := [(q8, .inr (4, [.null, .null, .null, .null, .int 0, .int 0, .int 0, .int 0, .int 0]))]) [8] rfl
  have hDc := hD.sub (ws' := [(q8, .inr (4, [.null, .null, .null, .null, .int 0, .int 0, .int 0, .int 0, .int 0]))]) [8] (by decide) rfl
  have hFc := va_free (wc := [(q8, .inr (4, [.null, .null, .null, .null, .int 0, .int 0, .int 0, .int 0, .int 0]))]) hD hS hA [8] rfl
  refine va_callv (va_runI (As := [.ref q2, .ref q1]) (rest := [.ref q8, .ref h0]) ⟨hx, hb, hml, hown, hg⟩ (c_X4_init l dC dI cI cZ cL q8 (Array.size _) q2 q1) (cwI 2 hg g_yX4_init rfl rfl rfl (hg _ k_81) (hg _ k_82) (hg _ k_83) rfl (by decide +kernel) ⟨(Nat.le_of_ble_eq_true rfl), (Nat.le_of_ble_eq_true rfl)⟩) ⟨hp_bl, fun U hU hW => hp_ok hU hW hPc hK hDc⟩ rfl rfl hl.1 rfl (lv_room (Nat.le_of_ble_eq_true rfl)) dX6_init_46 ⟨(Nat.le_of_ble_eq_true rfl), (Nat.le_of_ble_eq_true rfl)⟩) hS (fun q _ h => hFc q h) hFc (fun u t H locs ht hvm hw hB hz1 hk1 hS => ?_)
  obtain ⟨q9, q10, hP1, hD1⟩ := hB
  rw [ht] at hP1
  obtain ⟨hP, hD⟩ := va_join (wr := [(h0, .inr (6, [.ref q1, .int 0, .int (-1), .ref q2, .null, .null, .null])), (q1, .inl (cI, 60, .inl zI)), (q2, .inr (2, [.ref q3, .ref q4, .ref q5, .ref q6, .ref q7, .int 0])), (q3, .inl (cI, 4096, .inl zI)), (q4, .inl (cI, 4096, .inl zI)), (q5, .inl (cI, 4096, .inl zI)), (q6, .inl (cI, 4096, .inl zI)), (q7, .inl (cZ, 4096, .inl zI))]) (w1 := [(q8, .inr (4, [.ref q2, .ref q1, .ref q9, .ref q10, .int 0, .int 0, .int 0, .int 0, .int (-1)])), (q9, .inl (cI, 26, .inl zI)), (q10, .inl (cI, 60, .inl zI))]) hP hD [8] [0, 1, 2, 3, 4, 5, 6, 7] rfl rfl (by decide) (by decide) hk1 hFc hP1 hD1
  have hP : va_P (dC, dI) vwCl [(h0, .inr (6, [.ref q1, .int 0, .int (-1), .ref q2, .null, .null, .null])), (q1, .inl (cI, 60, .inl zI)), (q2, .inr (2, [.ref q3, .ref q4, .ref q5, .ref q6, .ref q7, .int 0])), (q3, .inl (cI, 4096, .inl zI)), (q4, .inl (cI, 4096, .inl zI)), (q5, .inl (cI, 4096, .inl zI)), (q6, .inl (cI, 4096, .inl zI)), (q7, .inl (cZ, 4096, .inl zI)), (q8, .inr (4, [.ref q2, .ref q1, .ref q9, .ref q10, .int 0, .int 0, .int 0, .int 0, .int (-1)])), (q9, .inl (cI, 26, .inl zI)), (q10, .inl (cI, 60, .inl zI))] H := hP
  have hD : va_D A [(h0, .inr (6, [.ref q1, .int 0, .int (-1), .ref q2, .null, .null, .null])), (q1, .inl (cI, 60, .inl zI)), (q2, .inr (2, [.ref q3, .ref q4, .ref q5, .ref q6, .ref q7, .int 0])), (q3, .inl (cI, 4096, .inl zI)), (q4, .inl (cI, 4096, .inl zI)), (q5, .inl (cI, 4096, .inl zI)), (q6, .inl (cI, 4096, .inl zI)), (q7, .inl (cZ, 4096, .inl zI)), (q8, .inr (4, [.ref q2, .ref q1, .ref q9, .ref q10, .int 0, .int 0, .int 0, .int 0, .int (-1)])), (q9, .inl (cI, 26, .inl zI)), (q10, .inl (cI, 60, .inl zI))] := hD
  refine W.widen (k := 10) (n := 20641) (Nat.le_of_ble_eq_true rfl) (Nat.le_of_ble_eq_true rfl) ?_
  refine va_putF (D := (dC, dI)) (ci := 6) (v := .ref q8) (ty := .object "TypeBench$Reader") (C := RX6) (T := TX6) (N := 7) hx hb hg i_X6 tyX6 tyX6_ok nmX6 hown hK hP hD hS 0 rfl rfl 4 (by decide) (hg _ k_84) (fun _ h9 => h9) rfl hin rfl (by decide +kernel) rfl rfl (Nat.le_of_ble_eq_true rfl) dX6_init_49 (fun H locs hP hD hS => ?_)
  have hP : va_P (dC, dI) vwCl [(h0, .inr (6, [.ref q1, .int 0, .int (-1), .ref q2, .ref q8, .null, .null])), (q1, .inl (cI, 60, .inl zI)), (q2, .inr (2, [.ref q3, .ref q4, .ref q5, .ref q6, .ref q7, .int 0])), (q3, .inl (cI, 4096, .inl zI)), (q4, .inl (cI, 4096, .inl zI)), (q5, .inl (cI, 4096, .inl zI)), (q6, .inl (cI, 4096, .inl zI)), (q7, .inl (cZ, 4096, .inl zI)), (q8, .inr (4, [.ref q2, .ref q1, .ref q9, .ref q10, .int 0, .int 0, .int 0, .int 0, .int (-1)])), (q9, .inl (cI, 26, .inl zI)), (q10, .inl (cI, 60, .inl zI))] H := hP
  have hD : va_D A [(h0, .inr (6, [.ref q1, .int 0, .int (-1), .ref q2, .ref q8, .null, .null])), (q1, .inl (cI, 60, .inl zI)), (q2, .inr (2, [.ref q3, .ref q4, .ref q5, .ref q6, .ref q7, .int 0])), (q3, .inl (cI, 4096, .inl zI)), (q4, .inl (cI, 4096, .inl zI)), (q5, .inl (cI, 4096, .inl zI)), (q6, .inl (cI, 4096, .inl zI)), (q7, .inl (cZ, 4096, .inl zI)), (q8, .inr (4, [.ref q2, .ref q1, .ref q9, .ref q10, .int 0, .int 0, .int 0, .int 0, .int (-1)])), (q9, .inl (cI, 26, .inl zI)), (q10, .inl (cI, 60, .inl zI))] := hD
  refine lv_aload_n hx hb dX6_init_52 rfl (lv_at hl 0 rfl) ?_
  refine va_new (ci := 1) (fs := [.null, .null, .null, .null, .null, .null, .int 0, .int 0, .int 0, .int 0, .int 0]) (C := RX1) (T := TX1) (N := 11) hx hb hg i_X1 tyX1 tyX1_ok hown (hg _ k_85) (hg _ k_86) (hg _ k_87) hK hP hD hS hA rfl (df_X1) (Nat.le_of_ble_eq_true rfl) (Nat.le_of_ble_eq_true rfl) dX6_init_53 (fun q11 H hP hD hS => ?_)
  have hP : va_P (dC, dI) vwCl [(h0, .inr (6, [.ref q1, .int 0, .int (-1), .ref q2, .ref q8, .null, .null])), (q1, .inl (cI, 60, .inl zI)), (q2, .inr (2, [.ref q3, .ref q4, .ref q5, .ref q6, .ref q7, .int 0])), (q3, .inl (cI, 4096, .inl zI)), (q4, .inl (cI, 4096, .inl zI)), (q5, .inl (cI, 4096, .inl zI)), (q6, .inl (cI, 4096, .inl zI)), (q7, .inl (cZ, 4096, .inl zI)), (q8, .inr (4, [.ref q2, .ref q1, .ref q9, .ref q10, .int 0, .int 0, .int 0, .int 0, .int (-1)])), (q9, .inl (cI, 26, .inl zI)), (q10, .inl (cI, 60, .inl zI)), (q11, .inr (1, [.null, .null, .null, .null, .null, .null, .int 0, .int 0, .int 0, .int 0, .int 0]))] H := hP
  have hD : va_D A [(h0, .inr (6, [.ref q1, .int 0, .int (-1), .ref q2, .ref q8, .null, .null])), (q1, .inl (cI, 60, .inl zI)), (q2, .inr (2, [.ref q3, .ref q4, .ref q5, .ref q6, .ref q7, .int 0])), (q3, .inl (cI, 4096, .inl zI)), (q4, .inl (cI, 4096, .inl zI)), (q5, .inl (cI, 4096, .inl zI)), (q6, .inl (cI, 4096, .inl zI)), (q7, .inl (cZ, 4096, .inl zI)), (q8, .inr (4, [.ref q2, .ref q1, .ref q9, .ref q10, .int 0, .int 0, .int 0, .int 0, .int (-1)])), (q9, .inl (cI, 26, .inl zI)), (q10, .inl (cI, 60, .inl zI)), (q11, .inr (1, [.null, .null, .null, .null, .null, .null, .int 0, .int 0, .int 0, .int 0, .int 0]))] := hD
  refine W.widen (k := 11) (n := 20652) (Nat.le_of_ble_eq_true rfl) (Nat.le_of_ble_eq_true rfl) ?_
  refine lv_dup hx hb dX6_init_56 rfl ?_
  refine lv_aload_n hx hb dX6_init_57 rfl (lv_at hl 0 rfl) ?_
  refine va_get (D := (dC, dI)) (ci := 6) (v := .ref q2) (C := RX6) (T := TX6) (N := 7) hx hb hg i_X6 hown hK hP 0 rfl rfl 3 (by decide) (hg _ k_78) (fun _ h9 => h9) rfl dX6_init_58 ?_
  have hPc := hP.sub (ws' := [(q11, .inr (1, [.null, .null, .null, .null, .null, .null, .int 0, .int 0, .int 0, .int 0, .int 0]))]) [11] rfl
  have hDc := hD.sub (ws' := [(q11, .inr (1, [.null, .null, .null, .null, .null, .null, .int 0, .int 0, .int 0, .int 0, .int 0]))]) [11] (by decide) rfl
  have hFc := va_free (wc := [(q11, .inr (1, [.null, .null, .null, .null, .null, .null, .int 0, .int 0, .int 0, .int 0, .int 0]))]) hD hS hA [11] rfl
  refine va_callv (va_runI (As := [.ref q2]) (rest := [.ref q11, .ref h0]) ⟨hx, hb, hml, hown, hg⟩ (c_X1_init l dC dI cI cZ cL q11 (Array.size _) q2) (cwI 1 hg g_yX1_init rfl rfl rfl (hg _ k_87) (hg _ k_88) (hg _ k_89) rfl (by decide +kernel) ⟨(Nat.le_of_ble_eq_true rfl), (Nat.le_of_ble_eq_true rfl)⟩) ⟨hp_bl, fun U hU hW => hp_ok hU hW hPc hK hDc⟩ rfl rfl hl.1 rfl (lv_room (Nat.le_of_ble_eq_true rfl)) dX6_init_61 ⟨(Nat.le_of_ble_eq_true rfl), (Nat.le_of_ble_eq_true rfl)⟩) hS (fun q _ h => hFc q h) hFc (fun u t H locs ht hvm hw hB hz1 hk1 hS => ?_)
  obtain ⟨q12, q13, q14, q15, q16, q17, q18, q19, q20, hP1, hD1⟩ := hB
  rw [ht] at hP1
  obtain ⟨hP, hD⟩ := va_join (wr := [(h0, .inr (6, [.ref q1, .int 0, .int (-1), .ref q2, .ref q8, .null, .null])), (q1, .inl (cI, 60, .inl zI)), (q2, .inr (2, [.ref q3, .ref q4, .ref q5, .ref q6, .ref q7, .int 0])), (q3, .inl (cI, 4096, .inl zI)), (q4, .inl (cI, 4096, .inl zI)), (q5, .inl (cI, 4096, .inl zI)), (q6, .inl (cI, 4096, .inl zI)), (q7, .inl (cZ, 4096, .inl zI)), (q8, .inr (4, [.ref q2, .ref q1, .ref q9, .ref q10, .int 0, .int 0, .int 0, .int 0, .int (-1)])), (q9, .inl (cI, 26, .inl zI)), (q10, .inl (cI, 60, .inl zI))]) (w1 := [(q11, .inr (1, [.ref q2, .ref q15, .ref q18, .ref q12, .ref q13, .ref q14, .int 0, .int 0, .int (-1), .int 0, .int 0])), (q12, .inl (cI, 1024, .inl zI)), (q13, .inl (cI, 1024, .inl zI)), (q14, .inl (cI, 1024, .inl zI)), (q15, .inr (0, [.ref q2, .ref q16, .ref q17, .int 0])), (q16, .inl (cI, 4096, .inl zI)), (q17, .inl (cI, 4096, .inl zI)), (q18, .inr (5, [.ref q2, .ref q15, .ref q19, .ref q20, .int 0, .int 0])), (q19, .inl (cI, 4096, .inl zI)), (q20, .inl (cI, 4096, .inl zI))]) hP hD [11] [0, 1, 2, 3, 4, 5, 6, 7, 8, 9, 10] rfl rfl (by decide) (by decide) hk1 hFc hP1 hD1
  have hP : va_P (dC, dI) vwCl [(h0, .inr (6, [.ref q1, .int 0, .int (-1), .ref q2, .ref q8, .null, .null])), (q1, .inl (cI, 60, .inl zI)), (q2, .inr (2, [.ref q3, .ref q4, .ref q5, .ref q6, .ref q7, .int 0])), (q3, .inl (cI, 4096, .inl zI)), (q4, .inl (cI, 4096, .inl zI)), (q5, .inl (cI, 4096, .inl zI)), (q6, .inl (cI, 4096, .inl zI)), (q7, .inl (cZ, 4096, .inl zI)), (q8, .inr (4, [.ref q2, .ref q1, .ref q9, .ref q10, .int 0, .int 0, .int 0, .int 0, .int (-1)])), (q9, .inl (cI, 26, .inl zI)), (q10, .inl (cI, 60, .inl zI)), (q11, .inr (1, [.ref q2, .ref q15, .ref q18, .ref q12, .ref q13, .ref q14, .int 0, .int 0, .int (-1), .int 0, .int 0])), (q12, .inl (cI, 1024, .inl zI)), (q13, .inl (cI, 1024, .inl zI)), (q14, .inl (cI, 1024, .inl zI)), (q15, .inr (0, [.ref q2, .ref q16, .ref q17, .int 0])), (q16, .inl (cI, 4096, .inl zI)), (q17, .inl (cI, 4096, .inl zI)), (q18, .inr (5, [.ref q2, .ref q15, .ref q19, .ref q20, .int 0, .int 0])), (q19, .inl (cI, 4096, .inl zI)), (q20, .inl (cI, 4096, .inl zI))] H := hP
  have hD : va_D A [(h0, .inr (6, [.ref q1, .int 0, .int (-1), .ref q2, .ref q8, .null, .null])), (q1, .inl (cI, 60, .inl zI)), (q2, .inr (2, [.ref q3, .ref q4, .ref q5, .ref q6, .ref q7, .int 0])), (q3, .inl (cI, 4096, .inl zI)), (q4, .inl (cI, 4096, .inl zI)), (q5, .inl (cI, 4096, .inl zI)), (q6, .inl (cI, 4096, .inl zI)), (q7, .inl (cZ, 4096, .inl zI)), (q8, .inr (4, [.ref q2, .ref q1, .ref q9, .ref q10, .int 0, .int 0, .int 0, .int 0, .int (-1)])), (q9, .inl (cI, 26, .inl zI)), (q10, .inl (cI, 60, .inl zI)), (q11, .inr (1, [.ref q2, .ref q15, .ref q18, .ref q12, .ref q13, .ref q14, .int 0, .int 0, .int (-1), .int 0, .int 0])), (q12, .inl (cI, 1024, .inl zI)), (q13, .inl (cI, 1024, .inl zI)), (q14, .inl (cI, 1024, .inl zI)), (q15, .inr (0, [.ref q2, .ref q16, .ref q17, .int 0])), (q16, .inl (cI, 4096, .inl zI)), (q17, .inl (cI, 4096, .inl zI)), (q18, .inr (5, [.ref q2, .ref q15, .ref q19, .ref q20, .int 0, .int 0])), (q19, .inl (cI, 4096, .inl zI)), (q20, .inl (cI, 4096, .inl zI))] := hD
  refine W.widen (k := 20) (n := 40118) (Nat.le_of_ble_eq_true rfl) (Nat.le_of_ble_eq_true rfl) ?_
  refine va_putF (D := (dC, dI)) (ci := 6) (v := .ref q11) (ty := .object "TypeBench$Judge") (C := RX6) (T := TX6) (N := 7) hx hb hg i_X6 tyX6 tyX6_ok nmX6 hown hK hP hD hS 0 rfl rfl 5 (by decide) (hg _ k_90) (fun _ h9 => h9) rfl hin rfl (by decide +kernel) rfl rfl (Nat.le_of_ble_eq_true rfl) dX6_init_64 (fun H locs hP hD hS => ?_)
  have hP : va_P (dC, dI) vwCl [(h0, .inr (6, [.ref q1, .int 0, .int (-1), .ref q2, .ref q8, .ref q11, .null])), (q1, .inl (cI, 60, .inl zI)), (q2, .inr (2, [.ref q3, .ref q4, .ref q5, .ref q6, .ref q7, .int 0])), (q3, .inl (cI, 4096, .inl zI)), (q4, .inl (cI, 4096, .inl zI)), (q5, .inl (cI, 4096, .inl zI)), (q6, .inl (cI, 4096, .inl zI)), (q7, .inl (cZ, 4096, .inl zI)), (q8, .inr (4, [.ref q2, .ref q1, .ref q9, .ref q10, .int 0, .int 0, .int 0, .int 0, .int (-1)])), (q9, .inl (cI, 26, .inl zI)), (q10, .inl (cI, 60, .inl zI)), (q11, .inr (1, [.ref q2, .ref q15, .ref q18, .ref q12, .ref q13, .ref q14, .int 0, .int 0, .int (-1), .int 0, .int 0])), (q12, .inl (cI, 1024, .inl zI)), (q13, .inl (cI, 1024, .inl zI)), (q14, .inl (cI, 1024, .inl zI)), (q15, .inr (0, [.ref q2, .ref q16, .ref q17, .int 0])), (q16, .inl (cI, 4096, .inl zI)), (q17, .inl (cI, 4096, .inl zI)), (q18, .inr (5, [.ref q2, .ref q15, .ref q19, .ref q20, .int 0, .int 0])), (q19, .inl (cI, 4096, .inl zI)), (q20, .inl (cI, 4096, .inl zI))] H := hP
  have hD : va_D A [(h0, .inr (6, [.ref q1, .int 0, .int (-1), .ref q2, .ref q8, .ref q11, .null])), (q1, .inl (cI, 60, .inl zI)), (q2, .inr (2, [.ref q3, .ref q4, .ref q5, .ref q6, .ref q7, .int 0])), (q3, .inl (cI, 4096, .inl zI)), (q4, .inl (cI, 4096, .inl zI)), (q5, .inl (cI, 4096, .inl zI)), (q6, .inl (cI, 4096, .inl zI)), (q7, .inl (cZ, 4096, .inl zI)), (q8, .inr (4, [.ref q2, .ref q1, .ref q9, .ref q10, .int 0, .int 0, .int 0, .int 0, .int (-1)])), (q9, .inl (cI, 26, .inl zI)), (q10, .inl (cI, 60, .inl zI)), (q11, .inr (1, [.ref q2, .ref q15, .ref q18, .ref q12, .ref q13, .ref q14, .int 0, .int 0, .int (-1), .int 0, .int 0])), (q12, .inl (cI, 1024, .inl zI)), (q13, .inl (cI, 1024, .inl zI)), (q14, .inl (cI, 1024, .inl zI)), (q15, .inr (0, [.ref q2, .ref q16, .ref q17, .int 0])), (q16, .inl (cI, 4096, .inl zI)), (q17, .inl (cI, 4096, .inl zI)), (q18, .inr (5, [.ref q2, .ref q15, .ref q19, .ref q20, .int 0, .int 0])), (q19, .inl (cI, 4096, .inl zI)), (q20, .inl (cI, 4096, .inl zI))] := hD
  refine lv_aload_n hx hb dX6_init_67 rfl (lv_at hl 0 rfl) ?_
  refine va_new (ci := 3) (fs := [.null, .null, .null, .int 0, .int 0, .int 0]) (C := RX3) (T := TX3) (N := 6) hx hb hg i_X3 tyX3 tyX3_ok hown (hg _ k_91) (hg _ k_92) (hg _ k_93) hK hP hD hS hA rfl (df_X3) (Nat.le_of_ble_eq_true rfl) (Nat.le_of_ble_eq_true rfl) dX6_init_68 (fun q21 H hP hD hS => ?_)
  have hP : va_P (dC, dI) vwCl [(h0, .inr (6, [.ref q1, .int 0, .int (-1), .ref q2, .ref q8, .ref q11, .null])), (q1, .inl (cI, 60, .inl zI)), (q2, .inr (2, [.ref q3, .ref q4, .ref q5, .ref q6, .ref q7, .int 0])), (q3, .inl (cI, 4096, .inl zI)), (q4, .inl (cI, 4096, .inl zI)), (q5, .inl (cI, 4096, .inl zI)), (q6, .inl (cI, 4096, .inl zI)), (q7, .inl (cZ, 4096, .inl zI)), (q8, .inr (4, [.ref q2, .ref q1, .ref q9, .ref q10, .int 0, .int 0, .int 0, .int 0, .int (-1)])), (q9, .inl (cI, 26, .inl zI)), (q10, .inl (cI, 60, .inl zI)), (q11, .inr (1, [.ref q2, .ref q15, .ref q18, .ref q12, .ref q13, .ref q14, .int 0, .int 0, .int (-1), .int 0, .int 0])), (q12, .inl (cI, 1024, .inl zI)), (q13, .inl (cI, 1024, .inl zI)), (q14, .inl (cI, 1024, .inl zI)), (q15, .inr (0, [.ref q2, .ref q16, .ref q17, .int 0])), (q16, .inl (cI, 4096, .inl zI)), (q17, .inl (cI, 4096, .inl zI)), (q18, .inr (5, [.ref q2, .ref q15, .ref q19, .ref q20, .int 0, .int 0])), (q19, .inl (cI, 4096, .inl zI)), (q20, .inl (cI, 4096, .inl zI)), (q21, .inr (3, [.null, .null, .null, .int 0, .int 0, .int 0]))] H := hP
  have hD : va_D A [(h0, .inr (6, [.ref q1, .int 0, .int (-1), .ref q2, .ref q8, .ref q11, .null])), (q1, .inl (cI, 60, .inl zI)), (q2, .inr (2, [.ref q3, .ref q4, .ref q5, .ref q6, .ref q7, .int 0])), (q3, .inl (cI, 4096, .inl zI)), (q4, .inl (cI, 4096, .inl zI)), (q5, .inl (cI, 4096, .inl zI)), (q6, .inl (cI, 4096, .inl zI)), (q7, .inl (cZ, 4096, .inl zI)), (q8, .inr (4, [.ref q2, .ref q1, .ref q9, .ref q10, .int 0, .int 0, .int 0, .int 0, .int (-1)])), (q9, .inl (cI, 26, .inl zI)), (q10, .inl (cI, 60, .inl zI)), (q11, .inr (1, [.ref q2, .ref q15, .ref q18, .ref q12, .ref q13, .ref q14, .int 0, .int 0, .int (-1), .int 0, .int 0])), (q12, .inl (cI, 1024, .inl zI)), (q13, .inl (cI, 1024, .inl zI)), (q14, .inl (cI, 1024, .inl zI)), (q15, .inr (0, [.ref q2, .ref q16, .ref q17, .int 0])), (q16, .inl (cI, 4096, .inl zI)), (q17, .inl (cI, 4096, .inl zI)), (q18, .inr (5, [.ref q2, .ref q15, .ref q19, .ref q20, .int 0, .int 0])), (q19, .inl (cI, 4096, .inl zI)), (q20, .inl (cI, 4096, .inl zI)), (q21, .inr (3, [.null, .null, .null, .int 0, .int 0, .int 0]))] := hD
  refine W.widen (k := 21) (n := 40124) (Nat.le_of_ble_eq_true rfl) (Nat.le_of_ble_eq_true rfl) ?_
  refine lv_dup hx hb dX6_init_71 rfl ?_
  refine lv_aload_n hx hb dX6_init_72 rfl (lv_at hl 0 rfl) ?_
  refine va_get (D := (dC, dI)) (ci := 6) (v := .ref q2) (C := RX6) (T := TX6) (N := 7) hx hb hg i_X6 hown hK hP 0 rfl rfl 3 (by decide) (hg _ k_78) (fun _ h9 => h9) rfl dX6_init_73 ?_
  have hPc := hP.sub (ws' := [(q21, .inr (3, [.null, .null, .null, .int 0, .int 0, .int 0]))]) [21] rfl
  have hDc := hD.sub (ws' := [(q21, .inr (3, [.null, .null, .null, .int 0, .int 0, .int 0]))]) [21] (by decide) rfl
  have hFc := va_free (wc := [(q21, .inr (3, [.null, .null, .null, .int 0, .int 0, .int 0]))]) hD hS hA [21] rfl
  refine va_callv (va_runI (As := [.ref q2]) (rest := [.ref q21, .ref h0]) ⟨hx, hb, hml, hown, hg⟩ (c_X3_init l dC dI cI cZ cL q21 (Array.size _) q2) (cwI 1 hg g_yX3_init rfl rfl rfl (hg _ k_93) (hg _ k_94) (hg _ k_95) rfl (by decide +kernel) ⟨(Nat.le_of_ble_eq_true rfl), (Nat.le_of_ble_eq_true rfl)⟩) ⟨hp_bl, fun U hU hW => hp_ok hU hW hPc hK hDc⟩ rfl rfl hl.1 rfl (lv_room (Nat.le_of_ble_eq_true rfl)) dX6_init_76 ⟨(Nat.le_of_ble_eq_true rfl), (Nat.le_of_ble_eq_true rfl)⟩) hS (fun q _ h => hFc q h) hFc (fun u t H locs ht hvm hw hB hz1 hk1 hS => ?_)
  obtain ⟨q22, q23, hP1, hD1⟩ := hB
  rw [ht] at hP1
  obtain ⟨hP, hD⟩ := va_join (wr := [(h0, .inr (6, [.ref q1, .int 0, .int (-1), .ref q2, .ref q8, .ref q11, .null])), (q1, .inl (cI, 60, .inl zI)), (q2, .inr (2, [.ref q3, .ref q4, .ref q5, .ref q6, .ref q7, .int 0])), (q3, .inl (cI, 4096, .inl zI)), (q4, .inl (cI, 4096, .inl zI)), (q5, .inl (cI, 4096, .inl zI)), (q6, .inl (cI, 4096, .inl zI)), (q7, .inl (cZ, 4096, .inl zI)), (q8, .inr (4, [.ref q2, .ref q1, .ref q9, .ref q10, .int 0, .int 0, .int 0, .int 0, .int (-1)])), (q9, .inl (cI, 26, .inl zI)), (q10, .inl (cI, 60, .inl zI)), (q11, .inr (1, [.ref q2, .ref q15, .ref q18, .ref q12, .ref q13, .ref q14, .int 0, .int 0, .int (-1), .int 0, .int 0])), (q12, .inl (cI, 1024, .inl zI)), (q13, .inl (cI, 1024, .inl zI)), (q14, .inl (cI, 1024, .inl zI)), (q15, .inr (0, [.ref q2, .ref q16, .ref q17, .int 0])), (q16, .inl (cI, 4096, .inl zI)), (q17, .inl (cI, 4096, .inl zI)), (q18, .inr (5, [.ref q2, .ref q15, .ref q19, .ref q20, .int 0, .int 0])), (q19, .inl (cI, 4096, .inl zI)), (q20, .inl (cI, 4096, .inl zI))]) (w1 := [(q21, .inr (3, [.ref q2, .ref q22, .ref q23, .int 0, .int (-1), .int 0])), (q22, .inl (cI, 4096, .inl zI)), (q23, .inl (cI, 4096, .inl zI))]) hP hD [21] [0, 1, 2, 3, 4, 5, 6, 7, 8, 9, 10, 11, 12, 13, 14, 15, 16, 17, 18, 19, 20] rfl rfl (by decide) (by decide) hk1 hFc hP1 hD1
  have hP : va_P (dC, dI) vwCl [(h0, .inr (6, [.ref q1, .int 0, .int (-1), .ref q2, .ref q8, .ref q11, .null])), (q1, .inl (cI, 60, .inl zI)), (q2, .inr (2, [.ref q3, .ref q4, .ref q5, .ref q6, .ref q7, .int 0])), (q3, .inl (cI, 4096, .inl zI)), (q4, .inl (cI, 4096, .inl zI)), (q5, .inl (cI, 4096, .inl zI)), (q6, .inl (cI, 4096, .inl zI)), (q7, .inl (cZ, 4096, .inl zI)), (q8, .inr (4, [.ref q2, .ref q1, .ref q9, .ref q10, .int 0, .int 0, .int 0, .int 0, .int (-1)])), (q9, .inl (cI, 26, .inl zI)), (q10, .inl (cI, 60, .inl zI)), (q11, .inr (1, [.ref q2, .ref q15, .ref q18, .ref q12, .ref q13, .ref q14, .int 0, .int 0, .int (-1), .int 0, .int 0])), (q12, .inl (cI, 1024, .inl zI)), (q13, .inl (cI, 1024, .inl zI)), (q14, .inl (cI, 1024, .inl zI)), (q15, .inr (0, [.ref q2, .ref q16, .ref q17, .int 0])), (q16, .inl (cI, 4096, .inl zI)), (q17, .inl (cI, 4096, .inl zI)), (q18, .inr (5, [.ref q2, .ref q15, .ref q19, .ref q20, .int 0, .int 0])), (q19, .inl (cI, 4096, .inl zI)), (q20, .inl (cI, 4096, .inl zI)), (q21, .inr (3, [.ref q2, .ref q22, .ref q23, .int 0, .int (-1), .int 0])), (q22, .inl (cI, 4096, .inl zI)), (q23, .inl (cI, 4096, .inl zI))] H := hP
  have hD : va_D A [(h0, .inr (6, [.ref q1, .int 0, .int (-1), .ref q2, .ref q8, .ref q11, .null])), (q1, .inl (cI, 60, .inl zI)), (q2, .inr (2, [.ref q3, .ref q4, .ref q5, .ref q6, .ref q7, .int 0])), (q3, .inl (cI, 4096, .inl zI)), (q4, .inl (cI, 4096, .inl zI)), (q5, .inl (cI, 4096, .inl zI)), (q6, .inl (cI, 4096, .inl zI)), (q7, .inl (cZ, 4096, .inl zI)), (q8, .inr (4, [.ref q2, .ref q1, .ref q9, .ref q10, .int 0, .int 0, .int 0, .int 0, .int (-1)])), (q9, .inl (cI, 26, .inl zI)), (q10, .inl (cI, 60, .inl zI)), (q11, .inr (1, [.ref q2, .ref q15, .ref q18, .ref q12, .ref q13, .ref q14, .int 0, .int 0, .int (-1), .int 0, .int 0])), (q12, .inl (cI, 1024, .inl zI)), (q13, .inl (cI, 1024, .inl zI)), (q14, .inl (cI, 1024, .inl zI)), (q15, .inr (0, [.ref q2, .ref q16, .ref q17, .int 0])), (q16, .inl (cI, 4096, .inl zI)), (q17, .inl (cI, 4096, .inl zI)), (q18, .inr (5, [.ref q2, .ref q15, .ref q19, .ref q20, .int 0, .int 0])), (q19, .inl (cI, 4096, .inl zI)), (q20, .inl (cI, 4096, .inl zI)), (q21, .inr (3, [.ref q2, .ref q22, .ref q23, .int 0, .int (-1), .int 0])), (q22, .inl (cI, 4096, .inl zI)), (q23, .inl (cI, 4096, .inl zI))] := hD
  refine W.widen (k := 23) (n := 48316) (Nat.le_of_ble_eq_true rfl) (Nat.le_of_ble_eq_true rfl) ?_
  refine va_putF (D := (dC, dI)) (ci := 6) (v := .ref q21) (ty := .object "TypeBench$Printer") (C := RX6) (T := TX6) (N := 7) hx hb hg i_X6 tyX6 tyX6_ok nmX6 hown hK hP hD hS 0 rfl rfl 6 (by decide) (hg _ k_96) (fun _ h9 => h9) rfl hin rfl (by decide +kernel) rfl rfl (Nat.le_of_ble_eq_true rfl) dX6_init_79 (fun H locs hP hD hS => ?_)
  have hP : va_P (dC, dI) vwCl [(h0, .inr (6, [.ref q1, .int 0, .int (-1), .ref q2, .ref q8, .ref q11, .ref q21])), (q1, .inl (cI, 60, .inl zI)), (q2, .inr (2, [.ref q3, .ref q4, .ref q5, .ref q6, .ref q7, .int 0])), (q3, .inl (cI, 4096, .inl zI)), (q4, .inl (cI, 4096, .inl zI)), (q5, .inl (cI, 4096, .inl zI)), (q6, .inl (cI, 4096, .inl zI)), (q7, .inl (cZ, 4096, .inl zI)), (q8, .inr (4, [.ref q2, .ref q1, .ref q9, .ref q10, .int 0, .int 0, .int 0, .int 0, .int (-1)])), (q9, .inl (cI, 26, .inl zI)), (q10, .inl (cI, 60, .inl zI)), (q11, .inr (1, [.ref q2, .ref q15, .ref q18, .ref q12, .ref q13, .ref q14, .int 0, .int 0, .int (-1), .int 0, .int 0])), (q12, .inl (cI, 1024, .inl zI)), (q13, .inl (cI, 1024, .inl zI)), (q14, .inl (cI, 1024, .inl zI)), (q15, .inr (0, [.ref q2, .ref q16, .ref q17, .int 0])), (q16, .inl (cI, 4096, .inl zI)), (q17, .inl (cI, 4096, .inl zI)), (q18, .inr (5, [.ref q2, .ref q15, .ref q19, .ref q20, .int 0, .int 0])), (q19, .inl (cI, 4096, .inl zI)), (q20, .inl (cI, 4096, .inl zI)), (q21, .inr (3, [.ref q2, .ref q22, .ref q23, .int 0, .int (-1), .int 0])), (q22, .inl (cI, 4096, .inl zI)), (q23, .inl (cI, 4096, .inl zI))] H := hP
  have hD : va_D A [(h0, .inr (6, [.ref q1, .int 0, .int (-1), .ref q2, .ref q8, .ref q11, .ref q21])), (q1, .inl (cI, 60, .inl zI)), (q2, .inr (2, [.ref q3, .ref q4, .ref q5, .ref q6, .ref q7, .int 0])), (q3, .inl (cI, 4096, .inl zI)), (q4, .inl (cI, 4096, .inl zI)), (q5, .inl (cI, 4096, .inl zI)), (q6, .inl (cI, 4096, .inl zI)), (q7, .inl (cZ, 4096, .inl zI)), (q8, .inr (4, [.ref q2, .ref q1, .ref q9, .ref q10, .int 0, .int 0, .int 0, .int 0, .int (-1)])), (q9, .inl (cI, 26, .inl zI)), (q10, .inl (cI, 60, .inl zI)), (q11, .inr (1, [.ref q2, .ref q15, .ref q18, .ref q12, .ref q13, .ref q14, .int 0, .int 0, .int (-1), .int 0, .int 0])), (q12, .inl (cI, 1024, .inl zI)), (q13, .inl (cI, 1024, .inl zI)), (q14, .inl (cI, 1024, .inl zI)), (q15, .inr (0, [.ref q2, .ref q16, .ref q17, .int 0])), (q16, .inl (cI, 4096, .inl zI)), (q17, .inl (cI, 4096, .inl zI)), (q18, .inr (5, [.ref q2, .ref q15, .ref q19, .ref q20, .int 0, .int 0])), (q19, .inl (cI, 4096, .inl zI)), (q20, .inl (cI, 4096, .inl zI)), (q21, .inr (3, [.ref q2, .ref q22, .ref q23, .int 0, .int (-1), .int 0])), (q22, .inl (cI, 4096, .inl zI)), (q23, .inl (cI, 4096, .inl zI))] := hD
  have hP9 := hP.sub (ws' := [(h0, .inr (6, [.ref q1, .int 0, .int (-1), .ref q2, .ref q8, .ref q11, .ref q21])), (q1, .inl (cI, 60, .inl zI)), (q2, .inr (2, [.ref q3, .ref q4, .ref q5, .ref q6, .ref q7, .int 0])), (q3, .inl (cI, 4096, .inl zI)), (q4, .inl (cI, 4096, .inl zI)), (q5, .inl (cI, 4096, .inl zI)), (q6, .inl (cI, 4096, .inl zI)), (q7, .inl (cZ, 4096, .inl zI)), (q8, .inr (4, [.ref q2, .ref q1, .ref q9, .ref q10, .int 0, .int 0, .int 0, .int 0, .int (-1)])), (q9, .inl (cI, 26, .inl zI)), (q10, .inl (cI, 60, .inl zI)), (q11, .inr (1, [.ref q2, .ref q15, .ref q18, .ref q12, .ref q13, .ref q14, .int 0, .int 0, .int (-1), .int 0, .int 0])), (q12, .inl (cI, 1024, .inl zI)), (q13, .inl (cI, 1024, .inl zI)), (q14, .inl (cI, 1024, .inl zI)), (q15, .inr (0, [.ref q2, .ref q16, .ref q17, .int 0])), (q16, .inl (cI, 4096, .inl zI)), (q17, .inl (cI, 4096, .inl zI)), (q18, .inr (5, [.ref q2, .ref q15, .ref q19, .ref q20, .int 0, .int 0])), (q19, .inl (cI, 4096, .inl zI)), (q20, .inl (cI, 4096, .inl zI)), (q21, .inr (3, [.ref q2, .ref q22, .ref q23, .int 0, .int (-1), .int 0])), (q22, .inl (cI, 4096, .inl zI)), (q23, .inl (cI, 4096, .inl zI))]) [0, 1, 2, 3, 4, 5, 6, 7, 8, 9, 10, 11, 12, 13, 14, 15, 16, 17, 18, 19, 20, 21, 22, 23] rfl
  have hD9 := hD.sub (ws' := [(h0, .inr (6, [.ref q1, .int 0, .int (-1), .ref q2, .ref q8, .ref q11, .ref q21])), (q1, .inl (cI, 60, .inl zI)), (q2, .inr (2, [.ref q3, .ref q4, .ref q5, .ref q6, .ref q7, .int 0])), (q3, .inl (cI, 4096, .inl zI)), (q4, .inl (cI, 4096, .inl zI)), (q5, .inl (cI, 4096, .inl zI)), (q6, .inl (cI, 4096, .inl zI)), (q7, .inl (cZ, 4096, .inl zI)), (q8, .inr (4, [.ref q2, .ref q1, .ref q9, .ref q10, .int 0, .int 0, .int 0, .int 0, .int (-1)])), (q9, .inl (cI, 26, .inl zI)), (q10, .inl (cI, 60, .inl zI)), (q11, .inr (1, [.ref q2, .ref q15, .ref q18, .ref q12, .ref q13, .ref q14, .int 0, .int 0, .int (-1), .int 0, .int 0])), (q12, .inl (cI, 1024, .inl zI)), (q13, .inl (cI, 1024, .inl zI)), (q14, .inl (cI, 1024, .inl zI)), (q15, .inr (0, [.ref q2, .ref q16, .ref q17, .int 0])), (q16, .inl (cI, 4096, .inl zI)), (q17, .inl (cI, 4096, .inl zI)), (q18, .inr (5, [.ref q2, .ref q15, .ref q19, .ref q20, .int 0, .int 0])), (q19, .inl (cI, 4096, .inl zI)), (q20, .inl (cI, 4096, .inl zI)), (q21, .inr (3, [.ref q2, .ref q22, .ref q23, .int 0, .int (-1), .int 0])), (q22, .inl (cI, 4096, .inl zI)), (q23, .inl (cI, 4096, .inl zI))]) [0, 1, 2, 3, 4, 5, 6, 7, 8, 9, 10, 11, 12, 13, 14, 15, 16, 17, 18, 19, 20, 21, 22, 23] (by decide) rfl
  refine W.widen (k := 23) (n := 48316) (Nat.le_of_ble_eq_true rfl) (Nat.le_of_ble_eq_true rfl) ?_
  exact W.vret hx hb hr (fun t ht hW => ⟨⟨(), rfl, trivial, q1, q2, q3, q4, q5, q6, q7, q8, q9, q10, q11, q12, q13, q14, q15, q16, q17, q18, q19, q20, q21, q22, q23, by rw [ht]; exact hP9, hD9⟩, hS.F ht⟩) hS.2.2 dX6_init_82

set_option maxHeartbeats 4000000 in
set_option maxRecDepth 100000 in
/-- TypeBenchModel() -/
theorem c_X7_init (l : Launch) (dC : Nat → ClassId) (dI : Nat → Nat → Nat) (cI cZ cL : ClassId) (h0 : Nat) (sz : Nat)  : Met l yX7_init (wd yX7_init cX7_init 1 none) ({ frames := 1, cells := 21, slots := 680898, locals := 12 }) (va_Pc [.ref h0] (hp dC dI cI cZ cL sz [(h0, .inr (7, [.int 0, .null, .int 0, .int 0, .int 0, .int 0, .int 0, .int 0, .int 0, .null, .null, .null, .int 0, .null, .null, .null, .int 0, .null, .null, .null, .int 0, .int 0, .null, .null, .null, .int 0, .int 0, .null, .int 0, .null, .null, .null, .int 0, .int 0, .null, .null, .null, .int 0, .null]))])) (va_Qv (fun (_ : Unit) => True) (fun (_ : Unit) t => ∃ q1 : Nat, ∃ q2 : Nat, ∃ q3 : Nat, ∃ q4 : Nat, ∃ q5 : Nat, ∃ q6 : Nat, ∃ q7 : Nat, ∃ q8 : Nat, ∃ q9 : Nat, ∃ q10 : Nat, ∃ q11 : Nat, ∃ q12 : Nat, ∃ q13 : Nat, ∃ q14 : Nat, ∃ q15 : Nat, ∃ q16 : Nat, ∃ q17 : Nat, ∃ q18 : Nat, ∃ q19 : Nat, ∃ q20 : Nat, ∃ q21 : Nat, va_P (dC, dI) vwCl [(h0, .inr (7, [.int 0, .ref q1, .int 0, .int 0, .int 0, .int 0, .int (-1), .int 0, .int 0, .ref q2, .ref q3, .ref q4, .int 0, .ref q5, .ref q6, .ref q7, .int 0, .ref q8, .ref q9, .ref q10, .int 0, .int 0, .ref q11, .ref q12, .ref q13, .int 0, .int 0, .ref q14, .int 0, .ref q15, .ref q16, .ref q17, .int 0, .int 0, .ref q18, .ref q19, .ref q20, .int 0, .ref q21])), (q1, .inl (cI, 60, .inl zI)), (q2, .inl (cI, 200000, .inl zI)), (q3, .inl (cI, 200000, .inl zI)), (q4, .inl (cI, 200000, .inl zI)), (q5, .inl (cI, 128, .inl zI)), (q6, .inl (cI, 128, .inl zI)), (q7, .inl (cI, 128, .inl zI)), (q8, .inl (cI, 130, .inl zI)), (q9, .inl (cI, 130, .inl zI)), (q10, .inl (cI, 130, .inl zI)), (q11, .inl (cI, 4000, .inl zI)), (q12, .inl (cI, 4000, .inl zI)), (q13, .inl (cI, 4000, .inl zI)), (q14, .inl (cI, 8000, .inl zI)), (q15, .inl (cI, 8000, .inl zI)), (q16, .inl (cI, 8000, .inl zI)), (q17, .inl (cI, 8000, .inl zI)), (q18, .inl (cI, 8000, .inl zI)), (q19, .inl (cI, 8000, .inl zI)), (q20, .inl (cI, 20000, .inl zI)), (q21, .inl (cI, 64, .inl zI))] t.heap ∧ va_D (va_A [(h0, .inr (7, [.int 0, .null, .int 0, .int 0, .int 0, .int 0, .int 0, .int 0, .int 0, .null, .null, .null, .int 0, .null, .null, .null, .int 0, .null, .null, .null, .int 0, .int 0, .null, .null, .null, .int 0, .int 0, .null, .int 0, .null, .null, .null, .int 0, .int 0, .null, .null, .null, .int 0, .null]))] sz) [(h0, .inr (7, [.int 0, .ref q1, .int 0, .int 0, .int 0, .int 0, .int (-1), .int 0, .int 0, .ref q2, .ref q3, .ref q4, .int 0, .ref q5, .ref q6, .ref q7, .int 0, .ref q8, .ref q9, .ref q10, .int 0, .int 0, .ref q11, .ref q12, .ref q13, .int 0, .int 0, .ref q14, .int 0, .ref q15, .ref q16, .ref q17, .int 0, .int 0, .ref q18, .ref q19, .ref q20, .int 0, .ref q21])), (q1, .inl (cI, 60, .inl zI)), (q2, .inl (cI, 200000, .inl zI)), (q3, .inl (cI, 200000, .inl zI)), (q4, .inl (cI, 200000, .inl zI)), (q5, .inl (cI, 128, .inl zI)), (q6, .inl (cI, 128, .inl zI)), (q7, .inl (cI, 128, .inl zI)), (q8, .inl (cI, 130, .inl zI)), (q9, .inl (cI, 130, .inl zI)), (q10, .inl (cI, 130, .inl zI)), (q11, .inl (cI, 4000, .inl zI)), (q12, .inl (cI, 4000, .inl zI)), (q13, .inl (cI, 4000, .inl zI)), (q14, .inl (cI, 8000, .inl zI)), (q15, .inl (cI, 8000, .inl zI)), (q16, .inl (cI, 8000, .inl zI)), (q17, .inl (cI, 8000, .inl zI)), (q18, .inl (cI, 8000, .inl zI)), (q19, .inl (cI, 8000, .inl zI)), (q20, .inl (cI, 20000, .inl zI)), (q21, .inl (cI, 64, .inl zI))]) (va_A [(h0, .inr (7, [.int 0, .null, .int 0, .int 0, .int 0, .int 0, .int 0, .int 0, .int 0, .null, .null, .null, .int 0, .null, .null, .null, .int 0, .null, .null, .null, .int 0, .int 0, .null, .null, .null, .int 0, .int 0, .null, .int 0, .null, .null, .null, .int 0, .int 0, .null, .null, .null, .int 0, .null]))] sz)) 21 680898 (va_A [(h0, .inr (7, [.int 0, .null, .int 0, .int 0, .int 0, .int 0, .int 0, .int 0, .int 0, .null, .null, .null, .int 0, .null, .null, .null, .int 0, .null, .null, .null, .int 0, .int 0, .null, .null, .null, .int 0, .int 0, .null, .int 0, .null, .null, .null, .int 0, .int 0, .null, .null, .null, .int 0, .null]))] sz) := by
  refine Met.ofW (cc := cX7_init) (maxL := 1) (ret := none) (by decide) rfl ?_
  intro p e s m args below meth c s₁ B hml hv
  obtain ⟨rfl, hsz, hP, hK, hD0⟩ := hv
  have hx := B.exec
  have hb := B.bytes
  have hr := B.returns
  have hw9 := atoms_spec (ws := (wd yX7_init cX7_init 1 none)) B.pre
  have hg := gw_hts hw9
  have hown : s.vm.findClass RX7 = some m.cls := findClass_of_methodNamed B.named
  have hlocks := B.notSynchronized
  have hin : meth.name = "<init>" := (name_of_methodNamed B.named B.method).1
  subst hsz
  have hD := hD0.self (sz := s.heap.size)
  generalize hAe : va_A [(h0, .inr (7, [.int 0, .null, .int 0, .int 0, .int 0, .int 0, .int 0, .int 0, .int 0, .null, .null, .null, .int 0, .null, .null, .null, .int 0, .null, .null, .null, .int 0, .int 0, .null, .null, .null, .int 0, .int 0, .null, .int 0, .null, .null, .null, .int 0, .int 0, .null, .null, .null, .int 0, .null]))] s.heap.size = A at hD ⊢
  have hA : ∀ q : Nat, s.heap.size ≤ q → A q := fun q h => by rw [← hAe]; exact Or.inr h
  have hS : va_S A s.heap s.heap [] := va_S.rf
  have hl := lv_entry ([.ref h0]) (n := 1) (Nat.le_of_ble_eq_true rfl)
  rw [lg_entry_eq]
  generalize (lg_sl ([.ref h0]) ++ List.replicate (1 - (lg_sl ([.ref h0])).length) Slot.unset).toArray = ls at hl ⊢
  have hl : lv_has ls 1 [(0, .ref h0)] := hl
  refine lv_aload_n hx hb dX7_init_0 rfl (lv_at hl 0 rfl) ?_
  refine W.objInit hx hb hown (hg _ k_97) (hg _ k_9) (hg _ k_10) rfl (by rw [hml]; exact hl.1) rfl dX7_init_1 (Nat.le_of_ble_eq_true rfl) (Nat.le_of_ble_eq_true rfl) ?_
  refine W.eq (g2 := F0 m 4 ls []) rfl ?_
  refine lv_aload_n hx hb dX7_init_4 rfl (lv_at hl 0 rfl) ?_
  refine lv_bipush (v := 60) hx hb dX7_init_5 (by decide) ?_
  refine va_newa (atype := .int) (ty := .int) (N' := 60) (a0 := (60, .inl zI)) hx hb (hg _ k_11) rfl hK hP hD hS hA (fun _ => rfl) (by decide) (by decide) (by decide) (Nat.le_of_ble_eq_true rfl) (Nat.le_of_ble_eq_true rfl) dX7_init_7 (fun q1 cA H hK1 hP hD hS => ?_)
  obtain rfl := ty_int hK1
  have hP : va_P (dC, dI) vwCl [(h0, .inr (7, [.int 0, .null, .int 0, .int 0, .int 0, .int 0, .int 0, .int 0, .int 0, .null, .null, .null, .int 0, .null, .null, .null, .int 0, .null, .null, .null, .int 0, .int 0, .null, .null, .null, .int 0, .int 0, .null, .int 0, .null, .null, .null, .int 0, .int 0, .null, .null, .null, .int 0, .null])), (q1, .inl (cI, 60, .inl zI))] H := hP
  have hD : va_D A [(h0, .inr (7, [.int 0, .null, .int 0, .int 0, .int 0, .int 0, .int 0, .int 0, .int 0, .null, .null, .null, .int 0, .null, .null, .null, .int 0, .null, .null, .null, .int 0, .int 0, .null, .null, .null, .int 0, .int 0, .null, .int 0, .null, .null, .null, .int 0, .int 0, .null, .null, .null, .int 0, .null])), (q1, .inl (cI, 60, .inl zI))] := hD
  refine W.widen (k := 1) (n := 60) (Nat.le_of_ble_eq_true rfl) (Nat.le_of_ble_eq_true rfl) ?_
  refine va_putF (D := (dC, dI)) (ci := 7) (v := .ref q1) (ty := .array .int) (C := RX7) (T := TX7) (N := 39) hx hb hg i_X7 tyX7 tyX7_ok nmX7 hown hK hP hD hS 0 rfl rfl 1 (by decide) (hg _ k_98) (fun _ h9 => h9) rfl hin rfl (by decide +kernel) rfl rfl (Nat.le_of_ble_eq_true rfl) dX7_init_9 (fun H locs hP hD hS => ?_)
  have hP : va_P (dC, dI) vwCl [(h0, .inr (7, [.int 0, .ref q1, .int 0, .int 0, .int 0, .int 0, .int 0, .int 0, .int 0, .null, .null, .null, .int 0, .null, .null, .null, .int 0, .null, .null, .null, .int 0, .int 0, .null, .null, .null, .int 0, .int 0, .null, .int 0, .null, .null, .null, .int 0, .int 0, .null, .null, .null, .int 0, .null])), (q1, .inl (cI, 60, .inl zI))] H := hP
  have hD : va_D A [(h0, .inr (7, [.int 0, .ref q1, .int 0, .int 0, .int 0, .int 0, .int 0, .int 0, .int 0, .null, .null, .null, .int 0, .null, .null, .null, .int 0, .null, .null, .null, .int 0, .int 0, .null, .null, .null, .int 0, .int 0, .null, .int 0, .null, .null, .null, .int 0, .int 0, .null, .null, .null, .int 0, .null])), (q1, .inl (cI, 60, .inl zI))] := hD
  refine lv_aload_n hx hb dX7_init_12 rfl (lv_at hl 0 rfl) ?_
  refine lv_iconst (v := (-1)) hx hb dX7_init_13 (by decide) ?_
  refine va_put (D := (dC, dI)) (ci := 7) (v := .int (-1)) (ty := .int) (C := RX7) (T := TX7) (N := 39) hx hb hg i_X7 tyX7 tyX7_ok nmX7 hown hK hP hD hS 0 rfl rfl 6 (by decide) (hg _ k_99) (fun _ h9 => h9) rfl (by decide +kernel) rfl rfl (Nat.le_of_ble_eq_true rfl) dX7_init_14 (fun H locs hP hD hS => ?_)
  have hP : va_P (dC, dI) vwCl [(h0, .inr (7, [.int 0, .ref q1, .int 0, .int 0, .int 0, .int 0, .int (-1), .int 0, .int 0, .null, .null, .null, .int 0, .null, .null, .null, .int 0, .null, .null, .null, .int 0, .int 0, .null, .null, .null, .int 0, .int 0, .null, .int 0, .null, .null, .null, .int 0, .int 0, .null, .null, .null, .int 0, .null])), (q1, .inl (cI, 60, .inl zI))] H := hP
  have hD : va_D A [(h0, .inr (7, [.int 0, .ref q1, .int 0, .int 0, .int 0, .int 0, .int (-1), .int 0, .int 0, .null, .null, .null, .int 0, .null, .null, .null, .int 0, .null, .null, .null, .int 0, .int 0, .null, .null, .null, .int 0, .int 0, .null, .int 0, .null, .null, .null, .int 0, .int 0, .null, .null, .null, .int 0, .null])), (q1, .inl (cI, 60, .inl zI))] := hD
  refine lv_aload_n hx hb dX7_init_17 rfl (lv_at hl 0 rfl) ?_
  refine lv_ldc (v := 200000) hx hb hown (hg _ k_100) dX7_init_18 ?_
  refine va_newa (atype := .int) (ty := .int) (N' := 200000) (a0 := (200000, .inl zI)) hx hb (hg _ k_11) rfl hK hP hD hS hA (fun _ => rfl) (by decide) (by decide) (by decide) (Nat.le_of_ble_eq_true rfl) (Nat.le_of_ble_eq_true rfl) dX7_init_20 (fun q2 cA H hK1 hP hD hS => ?_)
  obtain rfl := ty_int hK1
  have hP : va_P (dC, dI) vwCl [(h0, .inr (7, [.int 0, .ref q1, .int 0, .int 0, .int 0, .int 0, .int (-1), .int 0, .int 0, .null, .null, .null, .int 0, .null, .null, .null, .int 0, .null, .null, .null, .int 0, .int 0, .null, .null, .null, .int 0, .int 0, .null, .int 0, .null, .null, .null, .int 0, .int 0, .null, .null, .null, .int 0, .null])), (q1, .inl (cI, 60, .inl zI)), (q2, .inl (cI, 200000, .inl zI))] H := hP
  have hD : va_D A [(h0, .inr (7, [.int 0, .ref q1, .int 0, .int 0, .int 0, .int 0, .int (-1), .int 0, .int 0, .null, .null, .null, .int 0, .null, .null, .null, .int 0, .null, .null, .null, .int 0, .int 0, .null, .null, .null, .int 0, .int 0, .null, .int 0, .null, .null, .null, .int 0, .int 0, .null, .null, .null, .int 0, .null])), (q1, .inl (cI, 60, .inl zI)), (q2, .inl (cI, 200000, .inl zI))] := hD
  refine W.widen (k := 2) (n := 200060) (Nat.le_of_ble_eq_true rfl) (Nat.le_of_ble_eq_true rfl) ?_
  refine va_putF (D := (dC, dI)) (ci := 7) (v := .ref q2) (ty := .array .int) (C := RX7) (T := TX7) (N := 39) hx hb hg i_X7 tyX7 tyX7_ok nmX7 hown hK hP hD hS 0 rfl rfl 9 (by decide) (hg _ k_101) (fun _ h9 => h9) rfl hin rfl (by decide +kernel) rfl rfl (Nat.le_of_ble_eq_true rfl) dX7_init_22 (fun H locs hP hD hS => ?_)
  have hP : va_P (dC, dI) vwCl [(h0, .inr (7, [.int 0, .ref q1, .int 0, .int 0, .int 0, .int 0, .int (-1), .int 0, .int 0, .ref q2, .null, .null, .int 0, .null, .null, .null, .int 0, .null, .null, .null, .int 0, .int 0, .null, .null, .null, .int 0, .int 0, .null, .int 0, .null, .null, .null, .int 0, .int 0, .null, .null, .null, .int 0, .null])), (q1, .inl (cI, 60, .inl zI)), (q2, .inl (cI, 200000, .inl zI))] H := hP
  have hD : va_D A [(h0, .inr (7, [.int 0, .ref q1, .int 0, .int 0, .int 0, .int 0, .int (-1), .int 0, .int 0, .ref q2, .null, .null, .int 0, .null, .null, .null, .int 0, .null, .null, .null, .int 0, .int 0, .null, .null, .null, .int 0, .int 0, .null, .int 0, .null, .null, .null, .int 0, .int 0, .null, .null, .null, .int 0, .null])), (q1, .inl (cI, 60, .inl zI)), (q2, .inl (cI, 200000, .inl zI))] := hD
  refine lv_aload_n hx hb dX7_init_25 rfl (lv_at hl 0 rfl) ?_
  refine lv_ldc (v := 200000) hx hb hown (hg _ k_100) dX7_init_26 ?_
  refine va_newa (atype := .int) (ty := .int) (N' := 200000) (a0 := (200000, .inl zI)) hx hb (hg _ k_11) rfl hK hP hD hS hA (fun _ => rfl) (by decide) (by decide) (by decide) (Nat.le_of_ble_eq_true rfl) (Nat.le_of_ble_eq_true rfl) dX7_init_28 (fun q3 cA H hK1 hP hD hS => ?_)
  obtain rfl := ty_int hK1
  have hP : va_P (dC, dI) vwCl [(h0, .inr (7, [.int 0, .ref q1, .int 0, .int 0, .int 0, .int 0, .int (-1), .int 0, .int 0, .ref q2, .null, .null, .int 0, .null, .null, .null, .int 0, .null, .null, .null, .int 0, .int 0, .null, .null, .null, .int 0, .int 0, .null, .int 0, .null, .null, .null, .int 0, .int 0, .null, .null, .null, .int 0, .null])), (q1, .inl (cI, 60, .inl zI)), (q2, .inl (cI, 200000, .inl zI)), (q3, .inl (cI, 200000, .inl zI))] H := hP
  have hD : va_D A [(h0, .inr (7, [.int 0, .ref q1, .int 0, .int 0, .int 0, .int 0, .int (-1), .int 0, .int 0, .ref q2, .null, .null, .int 0, .null, .null, .null, .int 0, .null, .null, .null, .int 0, .int 0, .null, .null, .null, .int 0, .int 0, .null, .int 0, .null, .null, .null, .int 0, .int 0, .null, .null, .null, .int 0, .null])), (q1, .inl (cI, 60, .inl zI)), (q2, .inl (cI, 200000, .inl zI)), (q3, .inl (cI, 200000, .inl zI))] := hD
  refine W.widen (k := 3) (n := 400060) (Nat.le_of_ble_eq_true rfl) (Nat.le_of_ble_eq_true rfl) ?_
  refine va_putF (D := (dC, dI)) (ci := 7) (v := .ref q3) (ty := .array .int) (C := RX7) (T := TX7) (N := 39) hx hb hg i_X7 tyX7 tyX7_ok nmX7 hown hK hP hD hS 0 rfl rfl 10 (by decide) (hg _ k_102) (fun _ h9 => h9) rfl hin rfl (by decide +kernel) rfl rfl (Nat.le_of_ble_eq_true rfl) dX7_init_30 (fun H locs hP hD hS => ?_)
  have hP : va_P (dC, dI) vwCl [(h0, .inr (7, [.int 0, .ref q1, .int 0, .int 0, .int 0, .int 0, .int (-1), .int 0, .int 0, .ref q2, .ref q3, .null, .int 0, .null, .null, .null, .int 0, .null, .null, .null, .int 0, .int 0, .null, .null, .null, .int 0, .int 0, .null, .int 0, .null, .null, .null, .int 0, .int 0, .null, .null, .null, .int 0, .null])), (q1, .inl (cI, 60, .inl zI)), (q2, .inl (cI, 200000, .inl zI)), (q3, .inl (cI, 200000, .inl zI))] H := hP
  have hD : va_D A [(h0, .inr (7, [.int 0, .ref q1, .int 0, .int 0, .int 0, .int 0, .int (-1), .int 0, .int 0, .ref q2, .ref q3, .null, .int 0, .null, .null, .null, .int 0, .null, .null, .null, .int 0, .int 0, .null, .null, .null, .int 0, .int 0, .null, .int 0, .null, .null, .null, .int 0, .int 0, .null, .null, .null, .int 0, .null])), (q1, .inl (cI, 60, .inl zI)), (q2, .inl (cI, 200000, .inl zI)), (q3, .inl (cI, 200000, .inl zI))] := hD
  refine lv_aload_n hx hb dX7_init_33 rfl (lv_at hl 0 rfl) ?_
  refine lv_ldc (v := 200000) hx hb hown (hg _ k_100) dX7_init_34 ?_
  refine va_newa (atype := .int) (ty := .int) (N' := 200000) (a0 := (200000, .inl zI)) hx hb (hg _ k_11) rfl hK hP hD hS hA (fun _ => rfl) (by decide) (by decide) (by decide) (Nat.le_of_ble_eq_true rfl) (Nat.le_of_ble_eq_true rfl) dX7_init_36 (fun q4 cA H hK1 hP hD hS => ?_)
  obtain rfl := ty_int hK1
  have hP : va_P (dC, dI) vwCl [(h0, .inr (7, [.int 0, .ref q1, .int 0, .int 0, .int 0, .int 0, .int (-1), .int 0, .int 0, .ref q2, .ref q3, .null, .int 0, .null, .null, .null, .int 0, .null, .null, .null, .int 0, .int 0, .null, .null, .null, .int 0, .int 0, .null, .int 0, .null, .null, .null, .int 0, .int 0, .null, .null, .null, .int 0, .null])), (q1, .inl (cI, 60, .inl zI)), (q2, .inl (cI, 200000, .inl zI)), (q3, .inl (cI, 200000, .inl zI)), (q4, .inl (cI, 200000, .inl zI))] H := hP
  have hD : va_D A [(h0, .inr (7, [.int 0, .ref q1, .int 0, .int 0, .int 0, .int 0, .int (-1), .int 0, .int 0, .ref q2, .ref q3, .null, .int 0, .null, .null, .null, .int 0, .null, .null, .null, .int 0, .int 0, .null, .null, .null, .int 0, .int 0, .null, .int 0, .null, .null, .null, .int 0, .int 0, .null, .null, .null, .int 0, .null])), (q1, .inl (cI, 60, .inl zI)), (q2, .inl (cI, 200000, .inl zI)), (q3, .inl (cI, 200000, .inl zI)), (q4, .inl (cI, 200000, .inl zI))] := hD
  refine W.widen (k := 4) (n := 600060) (Nat.le_of_ble_eq_true rfl) (Nat.le_of_ble_eq_true rfl) ?_
  refine va_putF (D := (dC, dI)) (ci := 7) (v := .ref q4) (ty := .array .int) (C := RX7) (T := TX7) (N := 39) hx hb hg i_X7 tyX7 tyX7_ok nmX7 hown hK hP hD hS 0 rfl rfl 11 (by decide) (hg _ k_103) (fun _ h9 => h9) rfl hin rfl (by decide +kernel) rfl rfl (Nat.le_of_ble_eq_true rfl) dX7_init_38 (fun H locs hP hD hS => ?_)
  have hP : va_P (dC, dI) vwCl [(h0, .inr (7, [.int 0, .ref q1, .int 0, .int 0, .int 0, .int 0, .int (-1), .int 0, .int 0, .ref q2, .ref q3, .ref q4, .int 0, .null, .null, .null, .int 0, .null, .null, .null, .int 0, .int 0, .null, .null, .null, .int 0, .int 0, .null, .int 0, .null, .null, .null, .int 0, .int 0, .null, .null, .null, .int 0, .null])), (q1, .inl (cI, 60, .inl zI)), (q2, .inl (cI, 200000, .inl zI)), (q3, .inl (cI, 200000, .inl zI)), (q4, .inl (cI, 200000, .inl zI))] H := hP
  have hD : va_D A [(h0, .inr (7, [.int 0, .ref q1, .int 0, .int 0, .int 0, .int 0, .int (-1), .int 0, .int 0, .ref q2, .ref q3, .ref q4, .int 0, .null, .null, .null, .int 0, .null, .null, .null, .int 0, .int 0, .null, .null, .null, .int 0, .int 0, .null, .int 0, .null, .null, .null, .int 0, .int 0, .null, .null, .null, .int 0, .null])), (q1, .inl (cI, 60, .inl zI)), (q2, .inl (cI, 200000, .inl zI)), (q3, .inl (cI, 200000, .inl zI)), (q4, .inl (cI, 200000, .inl zI))] := hD
  refine lv_aload_n hx hb dX7_init_41 rfl (lv_at hl 0 rfl) ?_
  refine lv_sipush (v := 128) hx hb dX7_init_42 (by decide) ?_
  refine va_newa (atype := .int) (ty := .int) (N' := 128) (a0 := (128, .inl zI)) hx hb (hg _ k_11) rfl hK hP hD hS hA (fun _ => rfl) (by decide) (by decide) (by decide) (Nat.le_of_ble_eq_true rfl) (Nat.le_of_ble_eq_true rfl) dX7_init_45 (fun q5 cA H hK1 hP hD hS => ?_)
  obtain rfl := ty_int hK1
  have hP : va_P (dC, dI) vwCl [(h0, .inr (7, [.int 0, .ref q1, .int 0, .int 0, .int 0, .int 0, .int (-1), .int 0, .int 0, .ref q2, .ref q3, .ref q4, .int 0, .null, .null, .null, .int 0, .null, .null, .null, .int 0, .int 0, .null, .null, .null, .int 0, .int 0, .null, .int 0, .null, .null, .null, .int 0, .int 0, .null, .null, .null, .int 0, .null])), (q1, .inl (cI, 60, .inl zI)), (q2, .inl (cI, 200000, .inl zI)), (q3, .inl (cI, 200000, .inl zI)), (q4, .inl (cI, 200000, .inl zI)), (q5, .inl (cI, 128, .inl zI))] H := hP
  have hD : va_D A [(h0, .inr (7, [.int 0, .ref q1, .int 0, .int 0, .int 0, .int 0, .int (-1), .int 0, .int 0, .ref q2, .ref q3, .ref q4, .int 0, .null, .null, .null, .int 0, .null, .null, .null, .int 0, .int 0, .null, .null, .null, .int 0, .int 0, .null, .int 0, .null, .null, .null, .int 0, .int 0, .null, .null, .null, .int 0, .null])), (q1, .inl (cI, 60, .inl zI)), (q2, .inl (cI, 200000, .inl zI)), (q3, .inl (cI, 200000, .inl zI)), (q4, .inl (cI, 200000, .inl zI)), (q5, .inl (cI, 128, .inl zI))] := hD
  refine W.widen (k := 5) (n := 600188) (Nat.le_of_ble_eq_true rfl) (Nat.le_of_ble_eq_true rfl) ?_
  refine va_putF (D := (dC, dI)) (ci := 7) (v := .ref q5) (ty := .array .int) (C := RX7) (T := TX7) (N := 39) hx hb hg i_X7 tyX7 tyX7_ok nmX7 hown hK hP hD hS 0 rfl rfl 13 (by decide) (hg _ k_104) (fun _ h9 => h9) rfl hin rfl (by decide +kernel) rfl rfl (Nat.le_of_ble_eq_true rfl) dX7_init_47 (fun H locs hP hD hS => ?_)
  have hP : va_P (dC, dI) vwCl [(h0, .inr (7, [.int 0, .ref q1, .int 0, .int 0, .int 0, .int 0, .int (-1), .int 0, .int 0, .ref q2, .ref q3, .ref q4, .int 0, .ref q5, .null, .null, .int 0, .null, .null, .null, .int 0, .int 0, .null, .null, .null, .int 0, .int 0, .null, .int 0, .null, .null, .null, .int 0, .int 0, .null, .null, .null, .int 0, .null])), (q1, .inl (cI, 60, .inl zI)), (q2, .inl (cI, 200000, .inl zI)), (q3, .inl (cI, 200000, .inl zI)), (q4, .inl (cI, 200000, .inl zI)), (q5, .inl (cI, 128, .inl zI))] H := hP
  have hD : va_D A [(h0, .inr (7, [.int 0, .ref q1, .int 0, .int 0, .int 0, .int 0, .int (-1), .int 0, .int 0, .ref q2, .ref q3, .ref q4, .int 0, .ref q5, .null, .null, .int 0, .null, .null, .null, .int 0, .int 0, .null, .null, .null, .int 0, .int 0, .null, .int 0, .null, .null, .null, .int 0, .int 0, .null, .null, .null, .int 0, .null])), (q1, .inl (cI, 60, .inl zI)), (q2, .inl (cI, 200000, .inl zI)), (q3, .inl (cI, 200000, .inl zI)), (q4, .inl (cI, 200000, .inl zI)), (q5, .inl (cI, 128, .inl zI))] := hD
  refine lv_aload_n hx hb dX7_init_50 rfl (lv_at hl 0 rfl) ?_
  refine lv_sipush (v := 128) hx hb dX7_init_51 (by decide) ?_
  refine va_newa (atype := .int) (ty := .int) (N' := 128) (a0 := (128, .inl zI)) hx hb (hg _ k_11) rfl hK hP hD hS hA (fun _ => rfl) (by decide) (by decide) (by decide) (Nat.le_of_ble_eq_true rfl) (Nat.le_of_ble_eq_true rfl) dX7_init_54 (fun q6 cA H hK1 hP hD hS => ?_)
  obtain rfl := ty_int hK1
  have hP : va_P (dC, dI) vwCl [(h0, .inr (7, [.int 0, .ref q1, .int 0, .int 0, .int 0, .int 0, .int (-1), .int 0, .int 0, .ref q2, .ref q3, .ref q4, .int 0, .ref q5, .null, .null, .int 0, .null, .null, .null, .int 0, .int 0, .null, .null, .null, .int 0, .int 0, .null, .int 0, .null, .null, .null, .int 0, .int 0, .null, .null, .null, .int 0, .null])), (q1, .inl (cI, 60, .inl zI)), (q2, .inl (cI, 200000, .inl zI)), (q3, .inl (cI, 200000, .inl zI)), (q4, .inl (cI, 200000, .inl zI)), (q5, .inl (cI, 128, .inl zI)), (q6, .inl (cI, 128, .inl zI))] H := hP
  have hD : va_D A [(h0, .inr (7, [.int 0, .ref q1, .int 0, .int 0, .int 0, .int 0, .int (-1), .int 0, .int 0, .ref q2, .ref q3, .ref q4, .int 0, .ref q5, .null, .null, .int 0, .null, .null, .null, .int 0, .int 0, .null, .null, .null, .int 0, .int 0, .null, .int 0, .null, .null, .null, .int 0, .int 0, .null, .null, .null, .int 0, .null])), (q1, .inl (cI, 60, .inl zI)), (q2, .inl (cI, 200000, .inl zI)), (q3, .inl (cI, 200000, .inl zI)), (q4, .inl (cI, 200000, .inl zI)), (q5, .inl (cI, 128, .inl zI)), (q6, .inl (cI, 128, .inl zI))] := hD
  refine W.widen (k := 6) (n := 600316) (Nat.le_of_ble_eq_true rfl) (Nat.le_of_ble_eq_true rfl) ?_
  refine va_putF (D := (dC, dI)) (ci := 7) (v := .ref q6) (ty := .array .int) (C := RX7) (T := TX7) (N := 39) hx hb hg i_X7 tyX7 tyX7_ok nmX7 hown hK hP hD hS 0 rfl rfl 14 (by decide) (hg _ k_105) (fun _ h9 => h9) rfl hin rfl (by decide +kernel) rfl rfl (Nat.le_of_ble_eq_true rfl) dX7_init_56 (fun H locs hP hD hS => ?_)
  have hP : va_P (dC, dI) vwCl [(h0, .inr (7, [.int 0, .ref q1, .int 0, .int 0, .int 0, .int 0, .int (-1), .int 0, .int 0, .ref q2, .ref q3, .ref q4, .int 0, .ref q5, .ref q6, .null, .int 0, .null, .null, .null, .int 0, .int 0, .null, .null, .null, .int 0, .int 0, .null, .int 0, .null, .null, .null, .int 0, .int 0, .null, .null, .null, .int 0, .null])), (q1, .inl (cI, 60, .inl zI)), (q2, .inl (cI, 200000, .inl zI)), (q3, .inl (cI, 200000, .inl zI)), (q4, .inl (cI, 200000, .inl zI)), (q5, .inl (cI, 128, .inl zI)), (q6, .inl (cI, 128, .inl zI))] H := hP
  have hD : va_D A [(h0, .inr (7, [.int 0, .ref q1, .int 0, .int 0, .int 0, .int 0, .int (-1), .int 0, .int 0, .ref q2, .ref q3, .ref q4, .int 0, .ref q5, .ref q6, .null, .int 0, .null, .null, .null, .int 0, .int 0, .null, .null, .null, .int 0, .int 0, .null, .int 0, .null, .null, .null, .int 0, .int 0, .null, .null, .null, .int 0, .null])), (q1, .inl (cI, 60, .inl zI)), (q2, .inl (cI, 200000, .inl zI)), (q3, .inl (cI, 200000, .inl zI)), (q4, .inl (cI, 200000, .inl zI)), (q5, .inl (cI, 128, .inl zI)), (q6, .inl (cI, 128, .inl zI))] := hD
  refine lv_aload_n hx hb dX7_init_59 rfl (lv_at hl 0 rfl) ?_
  refine lv_sipush (v := 128) hx hb dX7_init_60 (by decide) ?_
  refine va_newa (atype := .int) (ty := .int) (N' := 128) (a0 := (128, .inl zI)) hx hb (hg _ k_11) rfl hK hP hD hS hA (fun _ => rfl) (by decide) (by decide) (by decide) (Nat.le_of_ble_eq_true rfl) (Nat.le_of_ble_eq_true rfl) dX7_init_63 (fun q7 cA H hK1 hP hD hS => ?_)
  obtain rfl := ty_int hK1
  have hP : va_P (dC, dI) vwCl [(h0, .inr (7, [.int 0, .ref q1, .int 0, .int 0, .int 0, .int 0, .int (-1), .int 0, .int 0, .ref q2, .ref q3, .ref q4, .int 0, .ref q5, .ref q6, .null, .int 0, .null, .null, .null, .int 0, .int 0, .null, .null, .null, .int 0, .int 0, .null, .int 0, .null, .null, .null, .int 0, .int 0, .null, .null, .null, .int 0, .null])), (q1, .inl (cI, 60, .inl zI)), (q2, .inl (cI, 200000, .inl zI)), (q3, .inl (cI, 200000, .inl zI)), (q4, .inl (cI, 200000, .inl zI)), (q5, .inl (cI, 128, .inl zI)), (q6, .inl (cI, 128, .inl zI)), (q7, .inl (cI, 128, .inl zI))] H := hP
  have hD : va_D A [(h0, .inr (7, [.int 0, .ref q1, .int 0, .int 0, .int 0, .int 0, .int (-1), .int 0, .int 0, .ref q2, .ref q3, .ref q4, .int 0, .ref q5, .ref q6, .null, .int 0, .null, .null, .null, .int 0, .int 0, .null, .null, .null, .int 0, .int 0, .null, .int 0, .null, .null, .null, .int 0, .int 0, .null, .null, .null, .int 0, .null])), (q1, .inl (cI, 60, .inl zI)), (q2, .inl (cI, 200000, .inl zI)), (q3, .inl (cI, 200000, .inl zI)), (q4, .inl (cI, 200000, .inl zI)), (q5, .inl (cI, 128, .inl zI)), (q6, .inl (cI, 128, .inl zI)), (q7, .inl (cI, 128, .inl zI))] := hD
  refine W.widen (k := 7) (n := 600444) (Nat.le_of_ble_eq_true rfl) (Nat.le_of_ble_eq_true rfl) ?_
  refine va_putF (D := (dC, dI)) (ci := 7) (v := .ref q7) (ty := .array .int) (C := RX7) (T := TX7) (N := 39) hx hb hg i_X7 tyX7 tyX7_ok nmX7 hown hK hP hD hS 0 rfl rfl 15 (by decide) (hg _ k_106) (fun _ h9 => h9) rfl hin rfl (by decide +kernel) rfl rfl (Nat.le_of_ble_eq_true rfl) dX7_init_65 (fun H locs hP hD hS => ?_)
  have hP : va_P (dC, dI) vwCl [(h0, .inr (7, [.int 0, .ref q1, .int 0, .int 0, .int 0, .int 0, .int (-1), .int 0, .int 0, .ref q2, .ref q3, .ref q4, .int 0, .ref q5, .ref q6, .ref q7, .int 0, .null, .null, .null, .int 0, .int 0, .null, .null, .null, .int 0, .int 0, .null, .int 0, .null, .null, .null, .int 0, .int 0, .null, .null, .null, .int 0, .null])), (q1, .inl (cI, 60, .inl zI)), (q2, .inl (cI, 200000, .inl zI)), (q3, .inl (cI, 200000, .inl zI)), (q4, .inl (cI, 200000, .inl zI)), (q5, .inl (cI, 128, .inl zI)), (q6, .inl (cI, 128, .inl zI)), (q7, .inl (cI, 128, .inl zI))] H := hP
  have hD : va_D A [(h0, .inr (7, [.int 0, .ref q1, .int 0, .int 0, .int 0, .int 0, .int (-1), .int 0, .int 0, .ref q2, .ref q3, .ref q4, .int 0, .ref q5, .ref q6, .ref q7, .int 0, .null, .null, .null, .int 0, .int 0, .null, .null, .null, .int 0, .int 0, .null, .int 0, .null, .null, .null, .int 0, .int 0, .null, .null, .null, .int 0, .null])), (q1, .inl (cI, 60, .inl zI)), (q2, .inl (cI, 200000, .inl zI)), (q3, .inl (cI, 200000, .inl zI)), (q4, .inl (cI, 200000, .inl zI)), (q5, .inl (cI, 128, .inl zI)), (q6, .inl (cI, 128, .inl zI)), (q7, .inl (cI, 128, .inl zI))] := hD
  refine lv_aload_n hx hb dX7_init_68 rfl (lv_at hl 0 rfl) ?_
  refine lv_sipush (v := 130) hx hb dX7_init_69 (by decide) ?_
  refine va_newa (atype := .int) (ty := .int) (N' := 130) (a0 := (130, .inl zI)) hx hb (hg _ k_11) rfl hK hP hD hS hA (fun _ => rfl) (by decide) (by decide) (by decide) (Nat.le_of_ble_eq_true rfl) (Nat.le_of_ble_eq_true rfl) dX7_init_72 (fun q8 cA H hK1 hP hD hS => ?_)
  obtain rfl := ty_int hK1
  have hP : va_P (dC, dI) vwCl [(h0, .inr (7, [.int 0, .ref q1, .int 0, .int 0, .int 0, .int 0, .int (-1), .int 0, .int 0, .ref q2, .ref q3, .ref q4, .int 0, .ref q5, .ref q6, .ref q7, .int 0, .null, .null, .null, .int 0, .int 0, .null, .null, .null, .int 0, .int 0, .null, .int 0, .null, .null, .null, .int 0, .int 0, .null, .null, .null, .int 0, .null])), (q1, .inl (cI, 60, .inl zI)), (q2, .inl (cI, 200000, .inl zI)), (q3, .inl (cI, 200000, .inl zI)), (q4, .inl (cI, 200000, .inl zI)), (q5, .inl (cI, 128, .inl zI)), (q6, .inl (cI, 128, .inl zI)), (q7, .inl (cI, 128, .inl zI)), (q8, .inl (cI, 130, .inl zI))] H := hP
  have hD : va_D A [(h0, .inr (7, [.int 0, .ref q1, .int 0, .int 0, .int 0, .int 0, .int (-1), .int 0, .int 0, .ref q2, .ref q3, .ref q4, .int 0, .ref q5, .ref q6, .ref q7, .int 0, .null, .null, .null, .int 0, .int 0, .null, .null, .null, .int 0, .int 0, .null, .int 0, .null, .null, .null, .int 0, .int 0, .null, .null, .null, .int 0, .null])), (q1, .inl (cI, 60, .inl zI)), (q2, .inl (cI, 200000, .inl zI)), (q3, .inl (cI, 200000, .inl zI)), (q4, .inl (cI, 200000, .inl zI)), (q5, .inl (cI, 128, .inl zI)), (q6, .inl (cI, 128, .inl zI)), (q7, .inl (cI, 128, .inl zI)), (q8, .inl (cI, 130, .inl zI))] := hD
  refine W.widen (k := 8) (n := 600574) (Nat.le_of_ble_eq_true rfl) (Nat.le_of_ble_eq_true rfl) ?_
  refine va_putF (D := (dC, dI)) (ci := 7) (v := .ref q8) (ty := .array .int) (C := RX7) (T := TX7) (N := 39) hx hb hg i_X7 tyX7 tyX7_ok nmX7 hown hK hP hD hS 0 rfl rfl 17 (by decide) (hg _ k_107) (fun _ h9 => h9) rfl hin rfl (by decide +kernel) rfl rfl (Nat.le_of_ble_eq_true rfl) dX7_init_74 (fun H locs hP hD hS => ?_)
  have hP : va_P (dC, dI) vwCl [(h0, .inr (7, [.int 0, .ref q1, .int 0, .int 0, .int 0, .int 0, .int (-1), .int 0, .int 0, .ref q2, .ref q3, .ref q4, .int 0, .ref q5, .ref q6, .ref q7, .int 0, .ref q8, .null, .null, .int 0, .int 0, .null, .null, .null, .int 0, .int 0, .null, .int 0, .null, .null, .null, .int 0, .int 0, .null, .null, .null, .int 0, .null])), (q1, .inl (cI, 60, .inl zI)), (q2, .inl (cI, 200000, .inl zI)), (q3, .inl (cI, 200000, .inl zI)), (q4, .inl (cI, 200000, .inl zI)), (q5, .inl (cI, 128, .inl zI)), (q6, .inl (cI, 128, .inl zI)), (q7, .inl (cI, 128, .inl zI)), (q8, .inl (cI, 130, .inl zI))] H := hP
  have hD : va_D A [(h0, .inr (7, [.int 0, .ref q1, .int 0, .int 0, .int 0, .int 0, .int (-1), .int 0, .int 0, .ref q2, .ref q3, .ref q4, .int 0, .ref q5, .ref q6, .ref q7, .int 0, .ref q8, .null, .null, .int 0, .int 0, .null, .null, .null, .int 0, .int 0, .null, .int 0, .null, .null, .null, .int 0, .int 0, .null, .null, .null, .int 0, .null])), (q1, .inl (cI, 60, .inl zI)), (q2, .inl (cI, 200000, .inl zI)), (q3, .inl (cI, 200000, .inl zI)), (q4, .inl (cI, 200000, .inl zI)), (q5, .inl (cI, 128, .inl zI)), (q6, .inl (cI, 128, .inl zI)), (q7, .inl (cI, 128, .inl zI)), (q8, .inl (cI, 130, .inl zI))] := hD
  refine lv_aload_n hx hb dX7_init_77 rfl (lv_at hl 0 rfl) ?_
  refine lv_sipush (v := 130) hx hb dX7_init_78 (by decide) ?_
  refine va_newa (atype := .int) (ty := .int) (N' := 130) (a0 := (130, .inl zI)) hx hb (hg _ k_11) rfl hK hP hD hS hA (fun _ => rfl) (by decide) (by decide) (by decide) (Nat.le_of_ble_eq_true rfl) (Nat.le_of_ble_eq_true rfl) dX7_init_81 (fun q9 cA H hK1 hP hD hS => ?_)
  obtain rfl := ty_int hK1
  have hP : va_P (dC, dI) vwCl [(h0, .inr (7, [.int 0, .ref q1, .int 0, .int 0, .int 0, .int 0, .int (-1), .int 0, .int 0, .ref q2, .ref q3, .ref q4, .int 0, .ref q5, .ref q6, .ref q7, .int 0, .ref q8, .null, .null, .int 0, .int 0, .null, .null, .null, .int 0, .int 0, .null, .int 0, .null, .null, .null, .int 0, .int 0, .null, .null, .null, .int 0, .null])), (q1, .inl (cI, 60, .inl zI)), (q2, .inl (cI, 200000, .inl zI)), (q3, .inl (cI, 200000, .inl zI)), (q4, .inl (cI, 200000, .inl zI)), (q5, .inl (cI, 128, .inl zI)), (q6, .inl (cI, 128, .inl zI)), (q7, .inl (cI, 128, .inl zI)), (q8, .inl (cI, 130, .inl zI)), (q9, .inl (cI, 130, .inl zI))] H := hP
  have hD : va_D A [(h0, .inr (7, [.int 0, .ref q1, .int 0, .int 0, .int 0, .int 0, .int (-1), .int 0, .int 0, .ref q2, .ref q3, .ref q4, .int 0, .ref q5, .ref q6, .ref q7, .int 0, .ref q8, .null, .null, .int 0, .int 0, .null, .null, .null, .int 0, .int 0, .null, .int 0, .null, .null, .null, .int 0, .int 0, .null, .null, .null, .int 0, .null])), (q1, .inl (cI, 60, .inl zI)), (q2, .inl (cI, 200000, .inl zI)), (q3, .inl (cI, 200000, .inl zI)), (q4, .inl (cI, 200000, .inl zI)), (q5, .inl (cI, 128, .inl zI)), (q6, .inl (cI, 128, .inl zI)), (q7, .inl (cI, 128, .inl zI)), (q8, .inl (cI, 130, .inl zI)), (q9, .inl (cI, 130, .inl zI))] := hD
  refine W.widen (k := 9) (n := 600704) (Nat.le_of_ble_eq_true rfl) (Nat.le_of_ble_eq_true rfl) ?_
  refine va_putF (D := (dC, dI)) (ci := 7) (v := .ref q9) (ty := .array .int) (C := RX7) (T := TX7) (N := 39) hx hb hg i_X7 tyX7 tyX7_ok nmX7 hown hK hP hD hS 0 rfl rfl 18 (by decide) (hg _ k_108) (fun _ h9 => h9) rfl hin rfl (by decide +kernel) rfl rfl (Nat.le_of_ble_eq_true rfl) dX7_init_83 (fun H locs hP hD hS => ?_)
  have hP : va_P (dC, dI) vwCl [(h0, .inr (7, [.int 0, .ref q1, .int 0, .int 0, .int 0, .int 0, .int (-1), .int 0, .int 0, .ref q2, .ref q3, .ref q4, .int 0, .ref q5, .ref q6, .ref q7, .int 0, .ref q8, .ref q9, .null, .int 0, .int 0, .null, .null, .null, .int 0, .int 0, .null, .int 0, .null, .null, .null, .int 0, .int 0, .null, .null, .null, .int 0, .null])), (q1, .inl (cI, 60, .inl zI)), (q2, .inl (cI, 200000, .inl zI)), (q3, .inl (cI, 200000, .inl zI)), (q4, .inl (cI, 200000, .inl zI)), (q5, .inl (cI, 128, .inl zI)), (q6, .inl (cI, 128, .inl zI)), (q7, .inl (cI, 128, .inl zI)), (q8, .inl (cI, 130, .inl zI)), (q9, .inl (cI, 130, .inl zI))] H := hP
  have hD : va_D A [(h0, .inr (7, [.int 0, .ref q1, .int 0, .int 0, .int 0, .int 0, .int (-1), .int 0, .int 0, .ref q2, .ref q3, .ref q4, .int 0, .ref q5, .ref q6, .ref q7, .int 0, .ref q8, .ref q9, .null, .int 0, .int 0, .null, .null, .null, .int 0, .int 0, .null, .int 0, .null, .null, .null, .int 0, .int 0, .null, .null, .null, .int 0, .null])), (q1, .inl (cI, 60, .inl zI)), (q2, .inl (cI, 200000, .inl zI)), (q3, .inl (cI, 200000, .inl zI)), (q4, .inl (cI, 200000, .inl zI)), (q5, .inl (cI, 128, .inl zI)), (q6, .inl (cI, 128, .inl zI)), (q7, .inl (cI, 128, .inl zI)), (q8, .inl (cI, 130, .inl zI)), (q9, .inl (cI, 130, .inl zI))] := hD
  refine lv_aload_n hx hb dX7_init_86 rfl (lv_at hl 0 rfl) ?_
  refine lv_sipush (v := 130) hx hb dX7_init_87 (by decide) ?_
  refine va_newa (atype := .int) (ty := .int) (N' := 130) (a0 := (130, .inl zI)) hx hb (hg _ k_11) rfl hK hP hD hS hA (fun _ => rfl) (by decide) (by decide) (by decide) (Nat.le_of_ble_eq_true rfl) (Nat.le_of_ble_eq_true rfl) dX7_init_90 (fun q10 cA H hK1 hP hD hS => ?_)
  obtain rfl := ty_int hK1
  have hP : va_P (dC, dI) vwCl [(h0, .inr (7, [.int 0, .ref q1, .int 0, .int 0, .int 0, .int 0, .int (-1), .int 0, .int 0, .ref q2, .ref q3, .ref q4, .int 0, .ref q5, .ref q6, .ref q7, .int 0, .ref q8, .ref q9, .null, .int 0, .int 0, .null, .null, .null, .int 0, .int 0, .null, .int 0, .null, .null, .null, .int 0, .int 0, .null, .null, .null, .int 0, .null])), (q1, .inl (cI, 60, .inl zI)), (q2, .inl (cI, 200000, .inl zI)), (q3, .inl (cI, 200000, .inl zI)), (q4, .inl (cI, 200000, .inl zI)), (q5, .inl (cI, 128, .inl zI)), (q6, .inl (cI, 128, .inl zI)), (q7, .inl (cI, 128, .inl zI)), (q8, .inl (cI, 130, .inl zI)), (q9, .inl (cI, 130, .inl zI)), (q10, .inl (cI, 130, .inl zI))] H := hP
  have hD : va_D A [(h0, .inr (7, [.int 0, .ref q1, .int 0, .int 0, .int 0, .int 0, .int (-1), .int 0, .int 0, .ref q2, .ref q3, .ref q4, .int 0, .ref q5, .ref q6, .ref q7, .int 0, .ref q8, .ref q9, .null, .int 0, .int 0, .null, .null, .null, .int 0, .int 0, .null, .int 0, .null, .null, .null, .int 0, .int 0, .null, .null, .null, .int 0, .null])), (q1, .inl (cI, 60, .inl zI)), (q2, .inl (cI, 200000, .inl zI)), (q3, .inl (cI, 200000, .inl zI)), (q4, .inl (cI, 200000, .inl zI)), (q5, .inl (cI, 128, .inl zI)), (q6, .inl (cI, 128, .inl zI)), (q7, .inl (cI, 128, .inl zI)), (q8, .inl (cI, 130, .inl zI)), (q9, .inl (cI, 130, .inl zI)), (q10, .inl (cI, 130, .inl zI))] := hD
  refine W.widen (k := 10) (n := 600834) (Nat.le_of_ble_eq_true rfl) (Nat.le_of_ble_eq_true rfl) ?_
  refine va_putF (D := (dC, dI)) (ci := 7) (v := .ref q10) (ty := .array .int) (C := RX7) (T := TX7) (N := 39) hx hb hg i_X7 tyX7 tyX7_ok nmX7 hown hK hP hD hS 0 rfl rfl 19 (by decide) (hg _ k_109) (fun _ h9 => h9) rfl hin rfl (by decide +kernel) rfl rfl (Nat.le_of_ble_eq_true rfl) dX7_init_92 (fun H locs hP hD hS => ?_)
  have hP : va_P (dC, dI) vwCl [(h0, .inr (7, [.int 0, .ref q1, .int 0, .int 0, .int 0, .int 0, .int (-1), .int 0, .int 0, .ref q2, .ref q3, .ref q4, .int 0, .ref q5, .ref q6, .ref q7, .int 0, .ref q8, .ref q9, .ref q10, .int 0, .int 0, .null, .null, .null, .int 0, .int 0, .null, .int 0, .null, .null, .null, .int 0, .int 0, .null, .null, .null, .int 0, .null])), (q1, .inl (cI, 60, .inl zI)), (q2, .inl (cI, 200000, .inl zI)), (q3, .inl (cI, 200000, .inl zI)), (q4, .inl (cI, 200000, .inl zI)), (q5, .inl (cI, 128, .inl zI)), (q6, .inl (cI, 128, .inl zI)), (q7, .inl (cI, 128, .inl zI)), (q8, .inl (cI, 130, .inl zI)), (q9, .inl (cI, 130, .inl zI)), (q10, .inl (cI, 130, .inl zI))] H := hP
  have hD : va_D A [(h0, .inr (7, [.int 0, .ref q1, .int 0, .int 0, .int 0, .int 0, .int (-1), .int 0, .int 0, .ref q2, .ref q3, .ref q4, .int 0, .ref q5, .ref q6, .ref q7, .int 0, .ref q8, .ref q9, .ref q10, .int 0, .int 0, .null, .null, .null, .int 0, .int 0, .null, .int 0, .null, .null, .null, .int 0, .int 0, .null, .null, .null, .int 0, .null])), (q1, .inl (cI, 60, .inl zI)), (q2, .inl (cI, 200000, .inl zI)), (q3, .inl (cI, 200000, .inl zI)), (q4, .inl (cI, 200000, .inl zI)), (q5, .inl (cI, 128, .inl zI)), (q6, .inl (cI, 128, .inl zI)), (q7, .inl (cI, 128, .inl zI)), (q8, .inl (cI, 130, .inl zI)), (q9, .inl (cI, 130, .inl zI)), (q10, .inl (cI, 130, .inl zI))] := hD
  refine lv_aload_n hx hb dX7_init_95 rfl (lv_at hl 0 rfl) ?_
  refine lv_sipush (v := 4000) hx hb dX7_init_96 (by decide) ?_
  refine va_newa (atype := .int) (ty := .int) (N' := 4000) (a0 := (4000, .inl zI)) hx hb (hg _ k_11) rfl hK hP hD hS hA (fun _ => rfl) (by decide) (by decide) (by decide) (Nat.le_of_ble_eq_true rfl) (Nat.le_of_ble_eq_true rfl) dX7_init_99 (fun q11 cA H hK1 hP hD hS => ?_)
  obtain rfl := ty_int hK1
  have hP : va_P (dC, dI) vwCl [(h0, .inr (7, [.int 0, .ref q1, .int 0, .int 0, .int 0, .int 0, .int (-1), .int 0, .int 0, .ref q2, .ref q3, .ref q4, .int 0, .ref q5, .ref q6, .ref q7, .int 0, .ref q8, .ref q9, .ref q10, .int 0, .int 0, .null, .null, .null, .int 0, .int 0, .null, .int 0, .null, .null, .null, .int 0, .int 0, .null, .null, .null, .int 0, .null])), (q1, .inl (cI, 60, .inl zI)), (q2, .inl (cI, 200000, .inl zI)), (q3, .inl (cI, 200000, .inl zI)), (q4, .inl (cI, 200000, .inl zI)), (q5, .inl (cI, 128, .inl zI)), (q6, .inl (cI, 128, .inl zI)), (q7, .inl (cI, 128, .inl zI)), (q8, .inl (cI, 130, .inl zI)), (q9, .inl (cI, 130, .inl zI)), (q10, .inl (cI, 130, .inl zI)), (q11, .inl (cI, 4000, .inl zI))] H := hP
  have hD : va_D A [(h0, .inr (7, [.int 0, .ref q1, .int 0, .int 0, .int 0, .int 0, .int (-1), .int 0, .int 0, .ref q2, .ref q3, .ref q4, .int 0, .ref q5, .ref q6, .ref q7, .int 0, .ref q8, .ref q9, .ref q10, .int 0, .int 0, .null, .null, .null, .int 0, .int 0, .null, .int 0, .null, .null, .null, .int 0, .int 0, .null, .null, .null, .int 0, .null])), (q1, .inl (cI, 60, .inl zI)), (q2, .inl (cI, 200000, .inl zI)), (q3, .inl (cI, 200000, .inl zI)), (q4, .inl (cI, 200000, .inl zI)), (q5, .inl (cI, 128, .inl zI)), (q6, .inl (cI, 128, .inl zI)), (q7, .inl (cI, 128, .inl zI)), (q8, .inl (cI, 130, .inl zI)), (q9, .inl (cI, 130, .inl zI)), (q10, .inl (cI, 130, .inl zI)), (q11, .inl (cI, 4000, .inl zI))] := hD
  refine W.widen (k := 11) (n := 604834) (Nat.le_of_ble_eq_true rfl) (Nat.le_of_ble_eq_true rfl) ?_
  refine va_putF (D := (dC, dI)) (ci := 7) (v := .ref q11) (ty := .array .int) (C := RX7) (T := TX7) (N := 39) hx hb hg i_X7 tyX7 tyX7_ok nmX7 hown hK hP hD hS 0 rfl rfl 22 (by decide) (hg _ k_110) (fun _ h9 => h9) rfl hin rfl (by decide +kernel) rfl rfl (Nat.le_of_ble_eq_true rfl) dX7_init_101 (fun H locs hP hD hS => ?_)
  have hP : va_P (dC, dI) vwCl [(h0, .inr (7, [.int 0, .ref q1, .int 0, .int 0, .int 0, .int 0, .int (-1), .int 0, .int 0, .ref q2, .ref q3, .ref q4, .int 0, .ref q5, .ref q6, .ref q7, .int 0, .ref q8, .ref q9, .ref q10, .int 0, .int 0, .ref q11, .null, .null, .int 0, .int 0, .null, .int 0, .null, .null, .null, .int 0, .int 0, .null, .null, .null, .int 0, .null])), (q1, .inl (cI, 60, .inl zI)), (q2, .inl (cI, 200000, .inl zI)), (q3, .inl (cI, 200000, .inl zI)), (q4, .inl (cI, 200000, .inl zI)), (q5, .inl (cI, 128, .inl zI)), (q6, .inl (cI, 128, .inl zI)), (q7, .inl (cI, 128, .inl zI)), (q8, .inl (cI, 130, .inl zI)), (q9, .inl (cI, 130, .inl zI)), (q10, .inl (cI, 130, .inl zI)), (q11, .inl (cI, 4000, .inl zI))] H := hP
  have hD : va_D A [(h0, .inr (7, [.int 0, .ref q1, .int 0, .int 0, .int 0, .int 0, .int (-1), .int 0, .int 0, .ref q2, .ref q3, .ref q4, .int 0, .ref q5, .ref q6, .ref q7, .int 0, .ref q8, .ref q9, .ref q10, .int 0, .int 0, .ref q11, .null, .null, .int 0, .int 0, .null, .int 0, .null, .null, .null, .int 0, .int 0, .null, .null, .null, .int 0, .null])), (q1, .inl (cI, 60, .inl zI)), (q2, .inl (cI, 200000, .inl zI)), (q3, .inl (cI, 200000, .inl zI)), (q4, .inl (cI, 200000, .inl zI)), (q5, .inl (cI, 128, .inl zI)), (q6, .inl (cI, 128, .inl zI)), (q7, .inl (cI, 128, .inl zI)), (q8, .inl (cI, 130, .inl zI)), (q9, .inl (cI, 130, .inl zI)), (q10, .inl (cI, 130, .inl zI)), (q11, .inl (cI, 4000, .inl zI))] := hD
  refine lv_aload_n hx hb dX7_init_104 rfl (lv_at hl 0 rfl) ?_
  refine lv_sipush (v := 4000) hx hb dX7_init_105 (by decide) ?_
  refine va_newa (atype := .int) (ty := .int) (N' := 4000) (a0 := (4000, .inl zI)) hx hb (hg _ k_11) rfl hK hP hD hS hA (fun _ => rfl) (by decide) (by decide) (by decide) (Nat.le_of_ble_eq_true rfl) (Nat.le_of_ble_eq_true rfl) dX7_init_108 (fun q12 cA H hK1 hP hD hS => ?_)
  obtain rfl := ty_int hK1
  have hP : va_P (dC, dI) vwCl [(h0, .inr (7, [.int 0, .ref q1, .int 0, .int 0, .int 0, .int 0, .int (-1), .int 0, .int 0, .ref q2, .ref q3, .ref q4, .int 0, .ref q5, .ref q6, .ref q7, .int 0, .ref q8, .ref q9, .ref q10, .int 0, .int 0, .ref q11, .null, .null, .int 0, .int 0, .null, .int 0, .null, .null, .null, .int 0, .int 0, .null, .null, .null, .int 0, .null])), (q1, .inl (cI, 60, .inl zI)), (q2, .inl (cI, 200000, .inl zI)), (q3, .inl (cI, 200000, .inl zI)), (q4, .inl (cI, 200000, .inl zI)), (q5, .inl (cI, 128, .inl zI)), (q6, .inl (cI, 128, .inl zI)), (q7, .inl (cI, 128, .inl zI)), (q8, .inl (cI, 130, .inl zI)), (q9, .inl (cI, 130, .inl zI)), (q10, .inl (cI, 130, .inl zI)), (q11, .inl (cI, 4000, .inl zI)), (q12, .inl (cI, 4000, .inl zI))] H := hP
  have hD : va_D A [(h0, .inr (7, [.int 0, .ref q1, .int 0, .int 0, .int 0, .int 0, .int (-1), .int 0, .int 0, .ref q2, .ref q3, .ref q4, .int 0, .ref q5, .ref q6, .ref q7, .int 0, .ref q8, .ref q9, .ref q10, .int 0, .int 0, .ref q11, .null, .null, .int 0, .int 0, .null, .int 0, .null, .null, .null, .int 0, .int 0, .null, .null, .null, .int 0, .null])), (q1, .inl (cI, 60, .inl zI)), (q2, .inl (cI, 200000, .inl zI)), (q3, .inl (cI, 200000, .inl zI)), (q4, .inl (cI, 200000, .inl zI)), (q5, .inl (cI, 128, .inl zI)), (q6, .inl (cI, 128, .inl zI)), (q7, .inl (cI, 128, .inl zI)), (q8, .inl (cI, 130, .inl zI)), (q9, .inl (cI, 130, .inl zI)), (q10, .inl (cI, 130, .inl zI)), (q11, .inl (cI, 4000, .inl zI)), (q12, .inl (cI, 4000, .inl zI))] := hD
  refine W.widen (k := 12) (n := 608834) (Nat.le_of_ble_eq_true rfl) (Nat.le_of_ble_eq_true rfl) ?_
  refine va_putF (D := (dC, dI)) (ci := 7) (v := .ref q12) (ty := .array .int) (C := RX7) (T := TX7) (N := 39) hx hb hg i_X7 tyX7 tyX7_ok nmX7 hown hK hP hD hS 0 rfl rfl 23 (by decide) (hg _ k_111) (fun _ h9 => h9) rfl hin rfl (by decide +kernel) rfl rfl (Nat.le_of_ble_eq_true rfl) dX7_init_110 (fun H locs hP hD hS => ?_)
  have hP : va_P (dC, dI) vwCl [(h0, .inr (7, [.int 0, .ref q1, .int 0, .int 0, .int 0, .int 0, .int (-1), .int 0, .int 0, .ref q2, .ref q3, .ref q4, .int 0, .ref q5, .ref q6, .ref q7, .int 0, .ref q8, .ref q9, .ref q10, .int 0, .int 0, .ref q11, .ref q12, .null, .int 0, .int 0, .null, .int 0, .null, .null, .null, .int 0, .int 0, .null, .null, .null, .int 0, .null])), (q1, .inl (cI, 60, .inl zI)), (q2, .inl (cI, 200000, .inl zI)), (q3, .inl (cI, 200000, .inl zI)), (q4, .inl (cI, 200000, .inl zI)), (q5, .inl (cI, 128, .inl zI)), (q6, .inl (cI, 128, .inl zI)), (q7, .inl (cI, 128, .inl zI)), (q8, .inl (cI, 130, .inl zI)), (q9, .inl (cI, 130, .inl zI)), (q10, .inl (cI, 130, .inl zI)), (q11, .inl (cI, 4000, .inl zI)), (q12, .inl (cI, 4000, .inl zI))] H := hP
  have hD : va_D A [(h0, .inr (7, [.int 0, .ref q1, .int 0, .int 0, .int 0, .int 0, .int (-1), .int 0, .int 0, .ref q2, .ref q3, .ref q4, .int 0, .ref q5, .ref q6, .ref q7, .int 0, .ref q8, .ref q9, .ref q10, .int 0, .int 0, .ref q11, .ref q12, .null, .int 0, .int 0, .null, .int 0, .null, .null, .null, .int 0, .int 0, .null, .null, .null, .int 0, .null])), (q1, .inl (cI, 60, .inl zI)), (q2, .inl (cI, 200000, .inl zI)), (q3, .inl (cI, 200000, .inl zI)), (q4, .inl (cI, 200000, .inl zI)), (q5, .inl (cI, 128, .inl zI)), (q6, .inl (cI, 128, .inl zI)), (q7, .inl (cI, 128, .inl zI)), (q8, .inl (cI, 130, .inl zI)), (q9, .inl (cI, 130, .inl zI)), (q10, .inl (cI, 130, .inl zI)), (q11, .inl (cI, 4000, .inl zI)), (q12, .inl (cI, 4000, .inl zI))] := hD
  refine lv_aload_n hx hb dX7_init_113 rfl (lv_at hl 0 rfl) ?_
  refine lv_sipush (v := 4000) hx hb dX7_init_114 (by decide) ?_
  refine va_newa (atype := .int) (ty := .int) (N' := 4000) (a0 := (4000, .inl zI)) hx hb (hg _ k_11) rfl hK hP hD hS hA (fun _ => rfl) (by decide) (by decide) (by decide) (Nat.le_of_ble_eq_true rfl) (Nat.le_of_ble_eq_true rfl) dX7_init_117 (fun q13 cA H hK1 hP hD hS => ?_)
  obtain rfl := ty_int hK1
  have hP : va_P (dC, dI) vwCl [(h0, .inr (7, [.int 0, .ref q1, .int 0, .int 0, .int 0, .int 0, .int (-1), .int 0, .int 0, .ref q2, .ref q3, .ref q4, .int 0, .ref q5, .ref q6, .ref q7, .int 0, .ref q8, .ref q9, .ref q10, .int 0, .int 0, .ref q11, .ref q12, .null, .int 0, .int 0, .null, .int 0, .null, .null, .null, .int 0, .int 0, .null, .null, .null, .int 0, .null])), (q1, .inl (cI, 60, .inl zI)), (q2, .inl (cI, 200000, .inl zI)), (q3, .inl (cI, 200000, .inl zI)), (q4, .inl (cI, 200000, .inl zI)), (q5, .inl (cI, 128, .inl zI)), (q6, .inl (cI, 128, .inl zI)), (q7, .inl (cI, 128, .inl zI)), (q8, .inl (cI, 130, .inl zI)), (q9, .inl (cI, 130, .inl zI)), (q10, .inl (cI, 130, .inl zI)), (q11, .inl (cI, 4000, .inl zI)), (q12, .inl (cI, 4000, .inl zI)), (q13, .inl (cI, 4000, .inl zI))] H := hP
  have hD : va_D A [(h0, .inr (7, [.int 0, .ref q1, .int 0, .int 0, .int 0, .int 0, .int (-1), .int 0, .int 0, .ref q2, .ref q3, .ref q4, .int 0, .ref q5, .ref q6, .ref q7, .int 0, .ref q8, .ref q9, .ref q10, .int 0, .int 0, .ref q11, .ref q12, .null, .int 0, .int 0, .null, .int 0, .null, .null, .null, .int 0, .int 0, .null, .null, .null, .int 0, .null])), (q1, .inl (cI, 60, .inl zI)), (q2, .inl (cI, 200000, .inl zI)), (q3, .inl (cI, 200000, .inl zI)), (q4, .inl (cI, 200000, .inl zI)), (q5, .inl (cI, 128, .inl zI)), (q6, .inl (cI, 128, .inl zI)), (q7, .inl (cI, 128, .inl zI)), (q8, .inl (cI, 130, .inl zI)), (q9, .inl (cI, 130, .inl zI)), (q10, .inl (cI, 130, .inl zI)), (q11, .inl (cI, 4000, .inl zI)), (q12, .inl (cI, 4000, .inl zI)), (q13, .inl (cI, 4000, .inl zI))] := hD
  refine W.widen (k := 13) (n := 612834) (Nat.le_of_ble_eq_true rfl) (Nat.le_of_ble_eq_true rfl) ?_
  refine va_putF (D := (dC, dI)) (ci := 7) (v := .ref q13) (ty := .array .int) (C := RX7) (T := TX7) (N := 39) hx hb hg i_X7 tyX7 tyX7_ok nmX7 hown hK hP hD hS 0 rfl rfl 24 (by decide) (hg _ k_112) (fun _ h9 => h9) rfl hin rfl (by decide +kernel) rfl rfl (Nat.le_of_ble_eq_true rfl) dX7_init_119 (fun H locs hP hD hS => ?_)
  have hP : va_P (dC, dI) vwCl [(h0, .inr (7, [.int 0, .ref q1, .int 0, .int 0, .int 0, .int 0, .int (-1), .int 0, .int 0, .ref q2, .ref q3, .ref q4, .int 0, .ref q5, .ref q6, .ref q7, .int 0, .ref q8, .ref q9, .ref q10, .int 0, .int 0, .ref q11, .ref q12, .ref q13, .int 0, .int 0, .null, .int 0, .null, .null, .null, .int 0, .int 0, .null, .null, .null, .int 0, .null])), (q1, .inl (cI, 60, .inl zI)), (q2, .inl (cI, 200000, .inl zI)), (q3, .inl (cI, 200000, .inl zI)), (q4, .inl (cI, 200000, .inl zI)), (q5, .inl (cI, 128, .inl zI)), (q6, .inl (cI, 128, .inl zI)), (q7, .inl (cI, 128, .inl zI)), (q8, .inl (cI, 130, .inl zI)), (q9, .inl (cI, 130, .inl zI)), (q10, .inl (cI, 130, .inl zI)), (q11, .inl (cI, 4000, .inl zI)), (q12, .inl (cI, 4000, .inl zI)), (q13, .inl (cI, 4000, .inl zI))] H := hP
  have hD : va_D A [(h0, .inr (7, [.int 0, .ref q1, .int 0, .int 0, .int 0, .int 0, .int (-1), .int 0, .int 0, .ref q2, .ref q3, .ref q4, .int 0, .ref q5, .ref q6, .ref q7, .int 0, .ref q8, .ref q9, .ref q10, .int 0, .int 0, .ref q11, .ref q12, .ref q13, .int 0, .int 0, .null, .int 0, .null, .null, .null, .int 0, .int 0, .null, .null, .null, .int 0, .null])), (q1, .inl (cI, 60, .inl zI)), (q2, .inl (cI, 200000, .inl zI)), (q3, .inl (cI, 200000, .inl zI)), (q4, .inl (cI, 200000, .inl zI)), (q5, .inl (cI, 128, .inl zI)), (q6, .inl (cI, 128, .inl zI)), (q7, .inl (cI, 128, .inl zI)), (q8, .inl (cI, 130, .inl zI)), (q9, .inl (cI, 130, .inl zI)), (q10, .inl (cI, 130, .inl zI)), (q11, .inl (cI, 4000, .inl zI)), (q12, .inl (cI, 4000, .inl zI)), (q13, .inl (cI, 4000, .inl zI))] := hD
  refine lv_aload_n hx hb dX7_init_122 rfl (lv_at hl 0 rfl) ?_
  refine lv_sipush (v := 8000) hx hb dX7_init_123 (by decide) ?_
  refine va_newa (atype := .int) (ty := .int) (N' := 8000) (a0 := (8000, .inl zI)) hx hb (hg _ k_11) rfl hK hP hD hS hA (fun _ => rfl) (by decide) (by decide) (by decide) (Nat.le_of_ble_eq_true rfl) (Nat.le_of_ble_eq_true rfl) dX7_init_126 (fun q14 cA H hK1 hP hD hS => ?_)
  obtain rfl := ty_int hK1
  have hP : va_P (dC, dI) vwCl [(h0, .inr (7, [.int 0, .ref q1, .int 0, .int 0, .int 0, .int 0, .int (-1), .int 0, .int 0, .ref q2, .ref q3, .ref q4, .int 0, .ref q5, .ref q6, .ref q7, .int 0, .ref q8, .ref q9, .ref q10, .int 0, .int 0, .ref q11, .ref q12, .ref q13, .int 0, .int 0, .null, .int 0, .null, .null, .null, .int 0, .int 0, .null, .null, .null, .int 0, .null])), (q1, .inl (cI, 60, .inl zI)), (q2, .inl (cI, 200000, .inl zI)), (q3, .inl (cI, 200000, .inl zI)), (q4, .inl (cI, 200000, .inl zI)), (q5, .inl (cI, 128, .inl zI)), (q6, .inl (cI, 128, .inl zI)), (q7, .inl (cI, 128, .inl zI)), (q8, .inl (cI, 130, .inl zI)), (q9, .inl (cI, 130, .inl zI)), (q10, .inl (cI, 130, .inl zI)), (q11, .inl (cI, 4000, .inl zI)), (q12, .inl (cI, 4000, .inl zI)), (q13, .inl (cI, 4000, .inl zI)), (q14, .inl (cI, 8000, .inl zI))] H := hP
  have hD : va_D A [(h0, .inr (7, [.int 0, .ref q1, .int 0, .int 0, .int 0, .int 0, .int (-1), .int 0, .int 0, .ref q2, .ref q3, .ref q4, .int 0, .ref q5, .ref q6, .ref q7, .int 0, .ref q8, .ref q9, .ref q10, .int 0, .int 0, .ref q11, .ref q12, .ref q13, .int 0, .int 0, .null, .int 0, .null, .null, .null, .int 0, .int 0, .null, .null, .null, .int 0, .null])), (q1, .inl (cI, 60, .inl zI)), (q2, .inl (cI, 200000, .inl zI)), (q3, .inl (cI, 200000, .inl zI)), (q4, .inl (cI, 200000, .inl zI)), (q5, .inl (cI, 128, .inl zI)), (q6, .inl (cI, 128, .inl zI)), (q7, .inl (cI, 128, .inl zI)), (q8, .inl (cI, 130, .inl zI)), (q9, .inl (cI, 130, .inl zI)), (q10, .inl (cI, 130, .inl zI)), (q11, .inl (cI, 4000, .inl zI)), (q12, .inl (cI, 4000, .inl zI)), (q13, .inl (cI, 4000, .inl zI)), (q14, .inl (cI, 8000, .inl zI))] := hD
  refine W.widen (k := 14) (n := 620834) (Nat.le_of_ble_eq_true rfl) (Nat.le_of_ble_eq_true rfl) ?_
  refine va_putF (D := (dC, dI)) (ci := 7) (v := .ref q14) (ty := .array .int) (C := RX7) (T := TX7) (N := 39) hx hb hg i_X7 tyX7 tyX7_ok nmX7 hown hK hP hD hS 0 rfl rfl 27 (by decide) (hg _ k_113) (fun _ h9 => h9) rfl hin rfl (by decide +kernel) rfl rfl (Nat.le_of_ble_eq_true rfl) dX7_init_128 (fun H locs hP hD hS => ?_)
  have hP : va_P (dC, dI) vwCl [(h0, .inr (7, [.int 0, .ref q1, .int 0, .int 0, .int 0, .int 0, .int (-1), .int 0, .int 0, .ref q2, .ref q3, .ref q4, .int 0, .ref q5, .ref q6, .ref q7, .int 0, .ref q8, .ref q9, .ref q10, .int 0, .int 0, .ref q11, .ref q12, .ref q13, .int 0, .int 0, .ref q14, .int 0, .null, .null, .null, .int 0, .int 0, .null, .null, .null, .int 0, .null])), (q1, .inl (cI, 60, .inl zI)), (q2, .inl (cI, 200000, .inl zI)), (q3, .inl (cI, 200000, .inl zI)), (q4, .inl (cI, 200000, .inl zI)), (q5, .inl (cI, 128, .inl zI)), (q6, .inl (cI, 128, .inl zI)), (q7, .inl (cI, 128, .inl zI)), (q8, .inl (cI, 130, .inl zI)), (q9, .inl (cI, 130, .inl zI)), (q10, .inl (cI, 130, .inl zI)), (q11, .inl (cI, 4000, .inl zI)), (q12, .inl (cI, 4000, .inl zI)), (q13, .inl (cI, 4000, .inl zI)), (q14, .inl (cI, 8000, .inl zI))] H := hP
  have hD : va_D A [(h0, .inr (7, [.int 0, .ref q1, .int 0, .int 0, .int 0, .int 0, .int (-1), .int 0, .int 0, .ref q2, .ref q3, .ref q4, .int 0, .ref q5, .ref q6, .ref q7, .int 0, .ref q8, .ref q9, .ref q10, .int 0, .int 0, .ref q11, .ref q12, .ref q13, .int 0, .int 0, .ref q14, .int 0, .null, .null, .null, .int 0, .int 0, .null, .null, .null, .int 0, .null])), (q1, .inl (cI, 60, .inl zI)), (q2, .inl (cI, 200000, .inl zI)), (q3, .inl (cI, 200000, .inl zI)), (q4, .inl (cI, 200000, .inl zI)), (q5, .inl (cI, 128, .inl zI)), (q6, .inl (cI, 128, .inl zI)), (q7, .inl (cI, 128, .inl zI)), (q8, .inl (cI, 130, .inl zI)), (q9, .inl (cI, 130, .inl zI)), (q10, .inl (cI, 130, .inl zI)), (q11, .inl (cI, 4000, .inl zI)), (q12, .inl (cI, 4000, .inl zI)), (q13, .inl (cI, 4000, .inl zI)), (q14, .inl (cI, 8000, .inl zI))] := hD
  refine lv_aload_n hx hb dX7_init_131 rfl (lv_at hl 0 rfl) ?_
  refine lv_sipush (v := 8000) hx hb dX7_init_132 (by decide) ?_
  refine va_newa (atype := .int) (ty := .int) (N' := 8000) (a0 := (8000, .inl zI)) hx hb (hg _ k_11) rfl hK hP hD hS hA (fun _ => rfl) (by decide) (by decide) (by decide) (Nat.le_of_ble_eq_true rfl) (Nat.le_of_ble_eq_true rfl) dX7_init_135 (fun q15 cA H hK1 hP hD hS => ?_)
  obtain rfl := ty_int hK1
  have hP : va_P (dC, dI) vwCl [(h0, .inr (7, [.int 0, .ref q1, .int 0, .int 0, .int 0, .int 0, .int (-1), .int 0, .int 0, .ref q2, .ref q3, .ref q4, .int 0, .ref q5, .ref q6, .ref q7, .int 0, .ref q8, .ref q9, .ref q10, .int 0, .int 0, .ref q11, .ref q12, .ref q13, .int 0, .int 0, .ref q14, .int 0, .null, .null, .null, .int 0, .int 0, .null, .null, .null, .int 0, .null])), (q1, .inl (cI, 60, .inl zI)), (q2, .inl (cI, 200000, .inl zI)), (q3, .inl (cI, 200000, .inl zI)), (q4, .inl (cI, 200000, .inl zI)), (q5, .inl (cI, 128, .inl zI)), (q6, .inl (cI, 128, .inl zI)), (q7, .inl (cI, 128, .inl zI)), (q8, .inl (cI, 130, .inl zI)), (q9, .inl (cI, 130, .inl zI)), (q10, .inl (cI, 130, .inl zI)), (q11, .inl (cI, 4000, .inl zI)), (q12, .inl (cI, 4000, .inl zI)), (q13, .inl (cI, 4000, .inl zI)), (q14, .inl (cI, 8000, .inl zI)), (q15, .inl (cI, 8000, .inl zI))] H := hP
  have hD : va_D A [(h0, .inr (7, [.int 0, .ref q1, .int 0, .int 0, .int 0, .int 0, .int (-1), .int 0, .int 0, .ref q2, .ref q3, .ref q4, .int 0, .ref q5, .ref q6, .ref q7, .int 0, .ref q8, .ref q9, .ref q10, .int 0, .int 0, .ref q11, .ref q12, .ref q13, .int 0, .int 0, .ref q14, .int 0, .null, .null, .null, .int 0, .int 0, .null, .null, .null, .int 0, .null])), (q1, .inl (cI, 60, .inl zI)), (q2, .inl (cI, 200000, .inl zI)), (q3, .inl (cI, 200000, .inl zI)), (q4, .inl (cI, 200000, .inl zI)), (q5, .inl (cI, 128, .inl zI)), (q6, .inl (cI, 128, .inl zI)), (q7, .inl (cI, 128, .inl zI)), (q8, .inl (cI, 130, .inl zI)), (q9, .inl (cI, 130, .inl zI)), (q10, .inl (cI, 130, .inl zI)), (q11, .inl (cI, 4000, .inl zI)), (q12, .inl (cI, 4000, .inl zI)), (q13, .inl (cI, 4000, .inl zI)), (q14, .inl (cI, 8000, .inl zI)), (q15, .inl (cI, 8000, .inl zI))] := hD
  refine W.widen (k := 15) (n := 628834) (Nat.le_of_ble_eq_true rfl) (Nat.le_of_ble_eq_true rfl) ?_
  refine va_putF (D := (dC, dI)) (ci := 7) (v := .ref q15) (ty := .array .int) (C := RX7) (T := TX7) (N := 39) hx hb hg i_X7 tyX7 tyX7_ok nmX7 hown hK hP hD hS 0 rfl rfl 29 (by decide) (hg _ k_114) (fun _ h9 => h9) rfl hin rfl (by decide +kernel) rfl rfl (Nat.le_of_ble_eq_true rfl) dX7_init_137 (fun H locs hP hD hS => ?_)
  have hP : va_P (dC, dI) vwCl [(h0, .inr (7, [.int 0, .ref q1, .int 0, .int 0, .int 0, .int 0, .int (-1), .int 0, .int 0, .ref q2, .ref q3, .ref q4, .int 0, .ref q5, .ref q6, .ref q7, .int 0, .ref q8, .ref q9, .ref q10, .int 0, .int 0, .ref q11, .ref q12, .ref q13, .int 0, .int 0, .ref q14, .int 0, .ref q15, .null, .null, .int 0, .int 0, .null, .null, .null, .int 0, .null])), (q1, .inl (cI, 60, .inl zI)), (q2, .inl (cI, 200000, .inl zI)), (q3, .inl (cI, 200000, .inl zI)), (q4, .inl (cI, 200000, .inl zI)), (q5, .inl (cI, 128, .inl zI)), (q6, .inl (cI, 128, .inl zI)), (q7, .inl (cI, 128, .inl zI)), (q8, .inl (cI, 130, .inl zI)), (q9, .inl (cI, 130, .inl zI)), (q10, .inl (cI, 130, .inl zI)), (q11, .inl (cI, 4000, .inl zI)), (q12, .inl (cI, 4000, .inl zI)), (q13, .inl (cI, 4000, .inl zI)), (q14, .inl (cI, 8000, .inl zI)), (q15, .inl (cI, 8000, .inl zI))] H := hP
  have hD : va_D A [(h0, .inr (7, [.int 0, .ref q1, .int 0, .int 0, .int 0, .int 0, .int (-1), .int 0, .int 0, .ref q2, .ref q3, .ref q4, .int 0, .ref q5, .ref q6, .ref q7, .int 0, .ref q8, .ref q9, .ref q10, .int 0, .int 0, .ref q11, .ref q12, .ref q13, .int 0, .int 0, .ref q14, .int 0, .ref q15, .null, .null, .int 0, .int 0, .null, .null, .null, .int 0, .null])), (q1, .inl (cI, 60, .inl zI)), (q2, .inl (cI, 200000, .inl zI)), (q3, .inl (cI, 200000, .inl zI)), (q4, .inl (cI, 200000, .inl zI)), (q5, .inl (cI, 128, .inl zI)), (q6, .inl (cI, 128, .inl zI)), (q7, .inl (cI, 128, .inl zI)), (q8, .inl (cI, 130, .inl zI)), (q9, .inl (cI, 130, .inl zI)), (q10, .inl (cI, 130, .inl zI)), (q11, .inl (cI, 4000, .inl zI)), (q12, .inl (cI, 4000, .inl zI)), (q13, .inl (cI, 4000, .inl zI)), (q14, .inl (cI, 8000, .inl zI)), (q15, .inl (cI, 8000, .inl zI))] := hD
  refine lv_aload_n hx hb dX7_init_140 rfl (lv_at hl 0 rfl) ?_
  refine lv_sipush (v := 8000) hx hb dX7_init_141 (by decide) ?_
  refine va_newa (atype := .int) (ty := .int) (N' := 8000) (a0 := (8000, .inl zI)) hx hb (hg _ k_11) rfl hK hP hD hS hA (fun _ => rfl) (by decide) (by decide) (by decide) (Nat.le_of_ble_eq_true rfl) (Nat.le_of_ble_eq_true rfl) dX7_init_144 (fun q16 cA H hK1 hP hD hS => ?_)
  obtain rfl := ty_int hK1
  have hP : va_P (dC, dI) vwCl [(h0, .inr (7, [.int 0, .ref q1, .int 0, .int 0, .int 0, .int 0, .int (-1), .int 0, .int 0, .ref q2, .ref q3, .ref q4, .int 0, .ref q5, .ref q6, .ref q7, .int 0, .ref q8, .ref q9, .ref q10, .int 0, .int 0, .ref q11, .ref q12, .ref q13, .int 0, .int 0, .ref q14, .int 0, .ref q15, .null, .null, .int 0, .int 0, .null, .null, .null, .int 0, .null])), (q1, .inl (cI, 60, .inl zI)), (q2, .inl (cI, 200000, .inl zI)), (q3, .inl (cI, 200000, .inl zI)), (q4, .inl (cI, 200000, .inl zI)), (q5, .inl (cI, 128, .inl zI)), (q6, .inl (cI, 128, .inl zI)), (q7, .inl (cI, 128, .inl zI)), (q8, .inl (cI, 130, .inl zI)), (q9, .inl (cI, 130, .inl zI)), (q10, .inl (cI, 130, .inl zI)), (q11, .inl (cI, 4000, .inl zI)), (q12, .inl (cI, 4000, .inl zI)), (q13, .inl (cI, 4000, .inl zI)), (q14, .inl (cI, 8000, .inl zI)), (q15, .inl (cI, 8000, .inl zI)), (q16, .inl (cI, 8000, .inl zI))] H := hP
  have hD : va_D A [(h0, .inr (7, [.int 0, .ref q1, .int 0, .int 0, .int 0, .int 0, .int (-1), .int 0, .int 0, .ref q2, .ref q3, .ref q4, .int 0, .ref q5, .ref q6, .ref q7, .int 0, .ref q8, .ref q9, .ref q10, .int 0, .int 0, .ref q11, .ref q12, .ref q13, .int 0, .int 0, .ref q14, .int 0, .ref q15, .null, .null, .int 0, .int 0, .null, .null, .null, .int 0, .null])), (q1, .inl (cI, 60, .inl zI)), (q2, .inl (cI, 200000, .inl zI)), (q3, .inl (cI, 200000, .inl zI)), (q4, .inl (cI, 200000, .inl zI)), (q5, .inl (cI, 128, .inl zI)), (q6, .inl (cI, 128, .inl zI)), (q7, .inl (cI, 128, .inl zI)), (q8, .inl (cI, 130, .inl zI)), (q9, .inl (cI, 130, .inl zI)), (q10, .inl (cI, 130, .inl zI)), (q11, .inl (cI, 4000, .inl zI)), (q12, .inl (cI, 4000, .inl zI)), (q13, .inl (cI, 4000, .inl zI)), (q14, .inl (cI, 8000, .inl zI)), (q15, .inl (cI, 8000, .inl zI)), (q16, .inl (cI, 8000, .inl zI))] := hD
  refine W.widen (k := 16) (n := 636834) (Nat.le_of_ble_eq_true rfl) (Nat.le_of_ble_eq_true rfl) ?_
  refine va_putF (D := (dC, dI)) (ci := 7) (v := .ref q16) (ty := .array .int) (C := RX7) (T := TX7) (N := 39) hx hb hg i_X7 tyX7 tyX7_ok nmX7 hown hK hP hD hS 0 rfl rfl 30 (by decide) (hg _ k_115) (fun _ h9 => h9) rfl hin rfl (by decide +kernel) rfl rfl (Nat.le_of_ble_eq_true rfl) dX7_init_146 (fun H locs hP hD hS => ?_)
  have hP : va_P (dC, dI) vwCl [(h0, .inr (7, [.int 0, .ref q1, .int 0, .int 0, .int 0, .int 0, .int (-1), .int 0, .int 0, .ref q2, .ref q3, .ref q4, .int 0, .ref q5, .ref q6, .ref q7, .int 0, .ref q8, .ref q9, .ref q10, .int 0, .int 0, .ref q11, .ref q12, .ref q13, .int 0, .int 0, .ref q14, .int 0, .ref q15, .ref q16, .null, .int 0, .int 0, .null, .null, .null, .int 0, .null])), (q1, .inl (cI, 60, .inl zI)), (q2, .inl (cI, 200000, .inl zI)), (q3, .inl (cI, 200000, .inl zI)), (q4, .inl (cI, 200000, .inl zI)), (q5, .inl (cI, 128, .inl zI)), (q6, .inl (cI, 128, .inl zI)), (q7, .inl (cI, 128, .inl zI)), (q8, .inl (cI, 130, .inl zI)), (q9, .inl (cI, 130, .inl zI)), (q10, .inl (cI, 130, .inl zI)), (q11, .inl (cI, 4000, .inl zI)), (q12, .inl (cI, 4000, .inl zI)), (q13, .inl (cI, 4000, .inl zI)), (q14, .inl (cI, 8000, .inl zI)), (q15, .inl (cI, 8000, .inl zI)), (q16, .inl (cI, 8000, .inl zI))] H := hP
  have hD : va_D A [(h0, .inr (7, [.int 0, .ref q1, .int 0, .int 0, .int 0, .int 0, .int (-1), .int 0, .int 0, .ref q2, .ref q3, .ref q4, .int 0, .ref q5, .ref q6, .ref q7, .int 0, .ref q8, .ref q9, .ref q10, .int 0, .int 0, .ref q11, .ref q12, .ref q13, .int 0, .int 0, .ref q14, .int 0, .ref q15, .ref q16, .null, .int 0, .int 0, .null, .null, .null, .int 0, .null])), (q1, .inl (cI, 60, .inl zI)), (q2, .inl (cI, 200000, .inl zI)), (q3, .inl (cI, 200000, .inl zI)), (q4, .inl (cI, 200000, .inl zI)), (q5, .inl (cI, 128, .inl zI)), (q6, .inl (cI, 128, .inl zI)), (q7, .inl (cI, 128, .inl zI)), (q8, .inl (cI, 130, .inl zI)), (q9, .inl (cI, 130, .inl zI)), (q10, .inl (cI, 130, .inl zI)), (q11, .inl (cI, 4000, .inl zI)), (q12, .inl (cI, 4000, .inl zI)), (q13, .inl (cI, 4000, .inl zI)), (q14, .inl (cI, 8000, .inl zI)), (q15, .inl (cI, 8000, .inl zI)), (q16, .inl (cI, 8000, .inl zI))] := hD
  refine lv_aload_n hx hb dX7_init_149 rfl (lv_at hl 0 rfl) ?_
  refine lv_sipush (v := 8000) hx hb dX7_init_150 (by decide) ?_
  refine va_newa (atype := .int) (ty := .int) (N' := 8000) (a0 := (8000, .inl zI)) hx hb (hg _ k_11) rfl hK hP hD hS hA (fun _ => rfl) (by decide) (by decide) (by decide) (Nat.le_of_ble_eq_true rfl) (Nat.le_of_ble_eq_true rfl) dX7_init_153 (fun q17 cA H hK1 hP hD hS => ?_)
  obtain rfl := ty_int hK1
  have hP : va_P (dC, dI) vwCl [(h0, .inr (7, [.int 0, .ref q1, .int 0, .int 0, .int 0, .int 0, .int (-1), .int 0, .int 0, .ref q2, .ref q3, .ref q4, .int 0, .ref q5, .ref q6, .ref q7, .int 0, .ref q8, .ref q9, .ref q10, .int 0, .int 0, .ref q11, .ref q12, .ref q13, .int 0, .int 0, .ref q14, .int 0, .ref q15, .ref q16, .null, .int 0, .int 0, .null, .null, .null, .int 0, .null])), (q1, .inl (cI, 60, .inl zI)), (q2, .inl (cI, 200000, .inl zI)), (q3, .inl (cI, 200000, .inl zI)), (q4, .inl (cI, 200000, .inl zI)), (q5, .inl (cI, 128, .inl zI)), (q6, .inl (cI, 128, .inl zI)), (q7, .inl (cI, 128, .inl zI)), (q8, .inl (cI, 130, .inl zI)), (q9, .inl (cI, 130, .inl zI)), (q10, .inl (cI, 130, .inl zI)), (q11, .inl (cI, 4000, .inl zI)), (q12, .inl (cI, 4000, .inl zI)), (q13, .inl (cI, 4000, .inl zI)), (q14, .inl (cI, 8000, .inl zI)), (q15, .inl (cI, 8000, .inl zI)), (q16, .inl (cI, 8000, .inl zI)), (q17, .inl (cI, 8000, .inl zI))] H := hP
  have hD : va_D A [(h0, .inr (7, [.int 0, .ref q1, .int 0, .int 0, .int 0, .int 0, .int (-1), .int 0, .int 0, .ref q2, .ref q3, .ref q4, .int 0, .ref q5, .ref q6, .ref q7, .int 0, .ref q8, .ref q9, .ref q10, .int 0, .int 0, .ref q11, .ref q12, .ref q13, .int 0, .int 0, .ref q14, .int 0, .ref q15, .ref q16, .null, .int 0, .int 0, .null, .null, .null, .int 0, .null])), (q1, .inl (cI, 60, .inl zI)), (q2, .inl (cI, 200000, .inl zI)), (q3, .inl (cI, 200000, .inl zI)), (q4, .inl (cI, 200000, .inl zI)), (q5, .inl (cI, 128, .inl zI)), (q6, .inl (cI, 128, .inl zI)), (q7, .inl (cI, 128, .inl zI)), (q8, .inl (cI, 130, .inl zI)), (q9, .inl (cI, 130, .inl zI)), (q10, .inl (cI, 130, .inl zI)), (q11, .inl (cI, 4000, .inl zI)), (q12, .inl (cI, 4000, .inl zI)), (q13, .inl (cI, 4000, .inl zI)), (q14, .inl (cI, 8000, .inl zI)), (q15, .inl (cI, 8000, .inl zI)), (q16, .inl (cI, 8000, .inl zI)), (q17, .inl (cI, 8000, .inl zI))] := hD
  refine W.widen (k := 17) (n := 644834) (Nat.le_of_ble_eq_true rfl) (Nat.le_of_ble_eq_true rfl) ?_
  refine va_putF (D := (dC, dI)) (ci := 7) (v := .ref q17) (ty := .array .int) (C := RX7) (T := TX7) (N := 39) hx hb hg i_X7 tyX7 tyX7_ok nmX7 hown hK hP hD hS 0 rfl rfl 31 (by decide) (hg _ k_116) (fun _ h9 => h9) rfl hin rfl (by decide +kernel) rfl rfl (Nat.le_of_ble_eq_true rfl) dX7_init_155 (fun H locs hP hD hS => ?_)
  have hP : va_P (dC, dI) vwCl [(h0, .inr (7, [.int 0, .ref q1, .int 0, .int 0, .int 0, .int 0, .int (-1), .int 0, .int 0, .ref q2, .ref q3, .ref q4, .int 0, .ref q5, .ref q6, .ref q7, .int 0, .ref q8, .ref q9, .ref q10, .int 0, .int 0, .ref q11, .ref q12, .ref q13, .int 0, .int 0, .ref q14, .int 0, .ref q15, .ref q16, .ref q17, .int 0, .int 0, .null, .null, .null, .int 0, .null])), (q1, .inl (cI, 60, .inl zI)), (q2, .inl (cI, 200000, .inl zI)), (q3, .inl (cI, 200000, .inl zI)), (q4, .inl (cI, 200000, .inl zI)), (q5, .inl (cI, 128, .inl zI)), (q6, .inl (cI, 128, .inl zI)), (q7, .inl (cI, 128, .inl zI)), (q8, .inl (cI, 130, .inl zI)), (q9, .inl (cI, 130, .inl zI)), (q10, .inl (cI, 130, .inl zI)), (q11, .inl (cI, 4000, .inl zI)), (q12, .inl (cI, 4000, .inl zI)), (q13, .inl (cI, 4000, .inl zI)), (q14, .inl (cI, 8000, .inl zI)), (q15, .inl (cI, 8000, .inl zI)), (q16, .inl (cI, 8000, .inl zI)), (q17, .inl (cI, 8000, .inl zI))] H := hP
  have hD : va_D A [(h0, .inr (7, [.int 0, .ref q1, .int 0, .int 0, .int 0, .int 0, .int (-1), .int 0, .int 0, .ref q2, .ref q3, .ref q4, .int 0, .ref q5, .ref q6, .ref q7, .int 0, .ref q8, .ref q9, .ref q10, .int 0, .int 0, .ref q11, .ref q12, .ref q13, .int 0, .int 0, .ref q14, .int 0, .ref q15, .ref q16, .ref q17, .int 0, .int 0, .null, .null, .null, .int 0, .null])), (q1, .inl (cI, 60, .inl zI)), (q2, .inl (cI, 200000, .inl zI)), (q3, .inl (cI, 200000, .inl zI)), (q4, .inl (cI, 200000, .inl zI)), (q5, .inl (cI, 128, .inl zI)), (q6, .inl (cI, 128, .inl zI)), (q7, .inl (cI, 128, .inl zI)), (q8, .inl (cI, 130, .inl zI)), (q9, .inl (cI, 130, .inl zI)), (q10, .inl (cI, 130, .inl zI)), (q11, .inl (cI, 4000, .inl zI)), (q12, .inl (cI, 4000, .inl zI)), (q13, .inl (cI, 4000, .inl zI)), (q14, .inl (cI, 8000, .inl zI)), (q15, .inl (cI, 8000, .inl zI)), (q16, .inl (cI, 8000, .inl zI)), (q17, .inl (cI, 8000, .inl zI))] := hD
  refine lv_aload_n hx hb dX7_init_158 rfl (lv_at hl 0 rfl) ?_
  refine lv_sipush (v := 8000) hx hb dX7_init_159 (by decide) ?_
  refine va_newa (atype := .int) (ty := .int) (N' := 8000) (a0 := (8000, .inl zI)) hx hb (hg _ k_11) rfl hK hP hD hS hA (fun _ => rfl) (by decide) (by decide) (by decide) (Nat.le_of_ble_eq_true rfl) (Nat.le_of_ble_eq_true rfl) dX7_init_162 (fun q18 cA H hK1 hP hD hS => ?_)
  obtain rfl := ty_int hK1
  have hP : va_P (dC, dI) vwCl [(h0, .inr (7, [.int 0, .ref q1, .int 0, .int 0, .int 0, .int 0, .int (-1), .int 0, .int 0, .ref q2, .ref q3, .ref q4, .int 0, .ref q5, .ref q6, .ref q7, .int 0, .ref q8, .ref q9, .ref q10, .int 0, .int 0, .ref q11, .ref q12, .ref q13, .int 0, .int 0, .ref q14, .int 0, .ref q15, .ref q16, .ref q17, .int 0, .int 0, .null, .null, .null, .int 0, .null])), (q1, .inl (cI, 60, .inl zI)), (q2, .inl (cI, 200000, .inl zI)), (q3, .inl (cI, 200000, .inl zI)), (q4, .inl (cI, 200000, .inl zI)), (q5, .inl (cI, 128, .inl zI)), (q6, .inl (cI, 128, .inl zI)), (q7, .inl (cI, 128, .inl zI)), (q8, .inl (cI, 130, .inl zI)), (q9, .inl (cI, 130, .inl zI)), (q10, .inl (cI, 130, .inl zI)), (q11, .inl (cI, 4000, .inl zI)), (q12, .inl (cI, 4000, .inl zI)), (q13, .inl (cI, 4000, .inl zI)), (q14, .inl (cI, 8000, .inl zI)), (q15, .inl (cI, 8000, .inl zI)), (q16, .inl (cI, 8000, .inl zI)), (q17, .inl (cI, 8000, .inl zI)), (q18, .inl (cI, 8000, .inl zI))] H := hP
  have hD : va_D A [(h0, .inr (7, [.int 0, .ref q1, .int 0, .int 0, .int 0, .int 0, .int (-1), .int 0, .int 0, .ref q2, .ref q3, .ref q4, .int 0, .ref q5, .ref q6, .ref q7, .int 0, .ref q8, .ref q9, .ref q10, .int 0, .int 0, .ref q11, .ref q12, .ref q13, .int 0, .int 0, .ref q14, .int 0, .ref q15, .ref q16, .ref q17, .int 0, .int 0, .null, .null, .null, .int 0, .null])), (q1, .inl (cI, 60, .inl zI)), (q2, .inl (cI, 200000, .inl zI)), (q3, .inl (cI, 200000, .inl zI)), (q4, .inl (cI, 200000, .inl zI)), (q5, .inl (cI, 128, .inl zI)), (q6, .inl (cI, 128, .inl zI)), (q7, .inl (cI, 128, .inl zI)), (q8, .inl (cI, 130, .inl zI)), (q9, .inl (cI, 130, .inl zI)), (q10, .inl (cI, 130, .inl zI)), (q11, .inl (cI, 4000, .inl zI)), (q12, .inl (cI, 4000, .inl zI)), (q13, .inl (cI, 4000, .inl zI)), (q14, .inl (cI, 8000, .inl zI)), (q15, .inl (cI, 8000, .inl zI)), (q16, .inl (cI, 8000, .inl zI)), (q17, .inl (cI, 8000, .inl zI)), (q18, .inl (cI, 8000, .inl zI))] := hD
  refine W.widen (k := 18) (n := 652834) (Nat.le_of_ble_eq_true rfl) (Nat.le_of_ble_eq_true rfl) ?_
  refine va_putF (D := (dC, dI)) (ci := 7) (v := .ref q18) (ty := .array .int) (C := RX7) (T := TX7) (N := 39) hx hb hg i_X7 tyX7 tyX7_ok nmX7 hown hK hP hD hS 0 rfl rfl 34 (by decide) (hg _ k_117) (fun _ h9 => h9) rfl hin rfl (by decide +kernel) rfl rfl (Nat.le_of_ble_eq_true rfl) dX7_init_164 (fun H locs hP hD hS => ?_)
  have hP : va_P (dC, dI) vwCl [(h0, .inr (7, [.int 0, .ref q1, .int 0, .int 0, .int 0, .int 0, .int (-1), .int 0, .int 0, .ref q2, .ref q3, .ref q4, .int 0, .ref q5, .ref q6, .ref q7, .int 0, .ref q8, .ref q9, .ref q10, .int 0, .int 0, .ref q11, .ref q12, .ref q13, .int 0, .int 0, .ref q14, .int 0, .ref q15, .ref q16, .ref q17, .int 0, .int 0, .ref q18, .null, .null, .int 0, .null])), (q1, .inl (cI, 60, .inl zI)), (q2, .inl (cI, 200000, .inl zI)), (q3, .inl (cI, 200000, .inl zI)), (q4, .inl (cI, 200000, .inl zI)), (q5, .inl (cI, 128, .inl zI)), (q6, .inl (cI, 128, .inl zI)), (q7, .inl (cI, 128, .inl zI)), (q8, .inl (cI, 130, .inl zI)), (q9, .inl (cI, 130, .inl zI)), (q10, .inl (cI, 130, .inl zI)), (q11, .inl (cI, 4000, .inl zI)), (q12, .inl (cI, 4000, .inl zI)), (q13, .inl (cI, 4000, .inl zI)), (q14, .inl (cI, 8000, .inl zI)), (q15, .inl (cI, 8000, .inl zI)), (q16, .inl (cI, 8000, .inl zI)), (q17, .inl (cI, 8000, .inl zI)), (q18, .inl (cI, 8000, .inl zI))] H := hP
  have hD : va_D A [(h0, .inr (7, [.int 0, .ref q1, .int 0, .int 0, .int 0, .int 0, .int (-1), .int 0, .int 0, .ref q2, .ref q3, .ref q4, .int 0, .ref q5, .ref q6, .ref q7, .int 0, .ref q8, .ref q9, .ref q10, .int 0, .int 0, .ref q11, .ref q12, .ref q13, .int 0, .int 0, .ref q14, .int 0, .ref q15, .ref q16, .ref q17, .int 0, .int 0, .ref q18, .null, .null, .int 0, .null])), (q1, .inl (cI, 60, .inl zI)), (q2, .inl (cI, 200000, .inl zI)), (q3, .inl (cI, 200000, .inl zI)), (q4, .inl (cI, 200000, .inl zI)), (q5, .inl (cI, 128, .inl zI)), (q6, .inl (cI, 128, .inl zI)), (q7, .inl (cI, 128, .inl zI)), (q8, .inl (cI, 130, .inl zI)), (q9, .inl (cI, 130, .inl zI)), (q10, .inl (cI, 130, .inl zI)), (q11, .inl (cI, 4000, .inl zI)), (q12, .inl (cI, 4000, .inl zI)), (q13, .inl (cI, 4000, .inl zI)), (q14, .inl (cI, 8000, .inl zI)), (q15, .inl (cI, 8000, .inl zI)), (q16, .inl (cI, 8000, .inl zI)), (q17, .inl (cI, 8000, .inl zI)), (q18, .inl (cI, 8000, .inl zI))] := hD
  refine lv_aload_n hx hb dX7_init_167 rfl (lv_at hl 0 rfl) ?_
  refine lv_sipush (v := 8000) hx hb dX7_init_168 (by decide) ?_
  refine va_newa (atype := .int) (ty := .int) (N' := 8000) (a0 := (8000, .inl zI)) hx hb (hg _ k_11) rfl hK hP hD hS hA (fun _ => rfl) (by decide) (by decide) (by decide) (Nat.le_of_ble_eq_true rfl) (Nat.le_of_ble_eq_true rfl) dX7_init_171 (fun q19 cA H hK1 hP hD hS => ?_)
  obtain rfl := ty_int hK1
  have hP : va_P (dC, dI) vwCl [(h0, .inr (7, [.int 0, .ref q1, .int 0, .int 0, .int 0, .int 0, .int (-1), .int 0, .int 0, .ref q2, .ref q3, .ref q4, .int 0, .ref q5, .ref q6, .ref q7, .int 0, .ref q8, .ref q9, .ref q10, .int 0, .int 0, .ref q11, .ref q12, .ref q13, .int 0, .int 0, .ref q14, .int 0, .ref q15, .ref q16, .ref q17, .int 0, .int 0, .ref q18, .null, .null, .int 0, .null])), (q1, .inl (cI, 60, .inl zI)), (q2, .inl (cI, 200000, .inl zI)), (q3, .inl (cI, 200000, .inl zI)), (q4, .inl (cI, 200000, .inl zI)), (q5, .inl (cI, 128, .inl zI)), (q6, .inl (cI, 128, .inl zI)), (q7, .inl (cI, 128, .inl zI)), (q8, .inl (cI, 130, .inl zI)), (q9, .inl (cI, 130, .inl zI)), (q10, .inl (cI, 130, .inl zI)), (q11, .inl (cI, 4000, .inl zI)), (q12, .inl (cI, 4000, .inl zI)), (q13, .inl (cI, 4000, .inl zI)), (q14, .inl (cI, 8000, .inl zI)), (q15, .inl (cI, 8000, .inl zI)), (q16, .inl (cI, 8000, .inl zI)), (q17, .inl (cI, 8000, .inl zI)), (q18, .inl (cI, 8000, .inl zI)), (q19, .inl (cI, 8000, .inl zI))] H := hP
  have hD : va_D A [(h0, .inr (7, [.int 0, .ref q1, .int 0, .int 0, .int 0, .int 0, .int (-1), .int 0, .int 0, .ref q2, .ref q3, .ref q4, .int 0, .ref q5, .ref q6, .ref q7, .int 0, .ref q8, .ref q9, .ref q10, .int 0, .int 0, .ref q11, .ref q12, .ref q13, .int 0, .int 0, .ref q14, .int 0, .ref q15, .ref q16, .ref q17, .int 0, .int 0, .ref q18, .null, .null, .int 0, .null])), (q1, .inl (cI, 60, .inl zI)), (q2, .inl (cI, 200000, .inl zI)), (q3, .inl (cI, 200000, .inl zI)), (q4, .inl (cI, 200000, .inl zI)), (q5, .inl (cI, 128, .inl zI)), (q6, .inl (cI, 128, .inl zI)), (q7, .inl (cI, 128, .inl zI)), (q8, .inl (cI, 130, .inl zI)), (q9, .inl (cI, 130, .inl zI)), (q10, .inl (cI, 130, .inl zI)), (q11, .inl (cI, 4000, .inl zI)), (q12, .inl (cI, 4000, .inl zI)), (q13, .inl (cI, 4000, .inl zI)), (q14, .inl (cI, 8000, .inl zI)), (q15, .inl (cI, 8000, .inl zI)), (q16, .inl (cI, 8000, .inl zI)), (q17, .inl (cI, 8000, .inl zI)), (q18, .inl (cI, 8000, .inl zI)), (q19, .inl (cI, 8000, .inl zI))] := hD
  refine W.widen (k := 19) (n := 660834) (Nat.le_of_ble_eq_true rfl) (Nat.le_of_ble_eq_true rfl) ?_
  refine va_putF (D := (dC, dI)) (ci := 7) (v := .ref q19) (ty := .array .int) (C := RX7) (T := TX7) (N := 39) hx hb hg i_X7 tyX7 tyX7_ok nmX7 hown hK hP hD hS 0 rfl rfl 35 (by decide) (hg _ k_118) (fun _ h9 => h9) rfl hin rfl (by decide +kernel) rfl rfl (Nat.le_of_ble_eq_true rfl) dX7_init_173 (fun H locs hP hD hS => ?_)
  have hP : va_P (dC, dI) vwCl [(h0, .inr (7, [.int 0, .ref q1, .int 0, .int 0, .int 0, .int 0, .int (-1), .int 0, .int 0, .ref q2, .ref q3, .ref q4, .int 0, .ref q5, .ref q6, .ref q7, .int 0, .ref q8, .ref q9, .ref q10, .int 0, .int 0, .ref q11, .ref q12, .ref q13, .int 0, .int 0, .ref q14, .int 0, .ref q15, .ref q16, .ref q17, .int 0, .int 0, .ref q18, .ref q19, .null, .int 0, .null])), (q1, .inl (cI, 60, .inl zI)), (q2, .inl (cI, 200000, .inl zI)), (q3, .inl (cI, 200000, .inl zI)), (q4, .inl (cI, 200000, .inl zI)), (q5, .inl (cI, 128, .inl zI)), (q6, .inl (cI, 128, .inl zI)), (q7, .inl (cI, 128, .inl zI)), (q8, .inl (cI, 130, .inl zI)), (q9, .inl (cI, 130, .inl zI)), (q10, .inl (cI, 130, .inl zI)), (q11, .inl (cI, 4000, .inl zI)), (q12, .inl (cI, 4000, .inl zI)), (q13, .inl (cI, 4000, .inl zI)), (q14, .inl (cI, 8000, .inl zI)), (q15, .inl (cI, 8000, .inl zI)), (q16, .inl (cI, 8000, .inl zI)), (q17, .inl (cI, 8000, .inl zI)), (q18, .inl (cI, 8000, .inl zI)), (q19, .inl (cI, 8000, .inl zI))] H := hP
  have hD : va_D A [(h0, .inr (7, [.int 0, .ref q1, .int 0, .int 0, .int 0, .int 0, .int (-1), .int 0, .int 0, .ref q2, .ref q3, .ref q4, .int 0, .ref q5, .ref q6, .ref q7, .int 0, .ref q8, .ref q9, .ref q10, .int 0, .int 0, .ref q11, .ref q12, .ref q13, .int 0, .int 0, .ref q14, .int 0, .ref q15, .ref q16, .ref q17, .int 0, .int 0, .ref q18, .ref q19, .null, .int 0, .null])), (q1, .inl (cI, 60, .inl zI)), (q2, .inl (cI, 200000, .inl zI)), (q3, .inl (cI, 200000, .inl zI)), (q4, .inl (cI, 200000, .inl zI)), (q5, .inl (cI, 128, .inl zI)), (q6, .inl (cI, 128, .inl zI)), (q7, .inl (cI, 128, .inl zI)), (q8, .inl (cI, 130, .inl zI)), (q9, .inl (cI, 130, .inl zI)), (q10, .inl (cI, 130, .inl zI)), (q11, .inl (cI, 4000, .inl zI)), (q12, .inl (cI, 4000, .inl zI)), (q13, .inl (cI, 4000, .inl zI)), (q14, .inl (cI, 8000, .inl zI)), (q15, .inl (cI, 8000, .inl zI)), (q16, .inl (cI, 8000, .inl zI)), (q17, .inl (cI, 8000, .inl zI)), (q18, .inl (cI, 8000, .inl zI)), (q19, .inl (cI, 8000, .inl zI))] := hD
  refine lv_aload_n hx hb dX7_init_176 rfl (lv_at hl 0 rfl) ?_
  refine lv_sipush (v := 20000) hx hb dX7_init_177 (by decide) ?_
  refine va_newa (atype := .int) (ty := .int) (N' := 20000) (a0 := (20000, .inl zI)) hx hb (hg _ k_11) rfl hK hP hD hS hA (fun _ => rfl) (by decide) (by decide) (by decide) (Nat.le_of_ble_eq_true rfl) (Nat.le_of_ble_eq_true rfl) dX7_init_180 (fun q20 cA H hK1 hP hD hS => ?_)
  obtain rfl := ty_int hK1
  have hP : va_P (dC, dI) vwCl [(h0, .inr (7, [.int 0, .ref q1, .int 0, .int 0, .int 0, .int 0, .int (-1), .int 0, .int 0, .ref q2, .ref q3, .ref q4, .int 0, .ref q5, .ref q6, .ref q7, .int 0, .ref q8, .ref q9, .ref q10, .int 0, .int 0, .ref q11, .ref q12, .ref q13, .int 0, .int 0, .ref q14, .int 0, .ref q15, .ref q16, .ref q17, .int 0, .int 0, .ref q18, .ref q19, .null, .int 0, .null])), (q1, .inl (cI, 60, .inl zI)), (q2, .inl (cI, 200000, .inl zI)), (q3, .inl (cI, 200000, .inl zI)), (q4, .inl (cI, 200000, .inl zI)), (q5, .inl (cI, 128, .inl zI)), (q6, .inl (cI, 128, .inl zI)), (q7, .inl (cI, 128, .inl zI)), (q8, .inl (cI, 130, .inl zI)), (q9, .inl (cI, 130, .inl zI)), (q10, .inl (cI, 130, .inl zI)), (q11, .inl (cI, 4000, .inl zI)), (q12, .inl (cI, 4000, .inl zI)), (q13, .inl (cI, 4000, .inl zI)), (q14, .inl (cI, 8000, .inl zI)), (q15, .inl (cI, 8000, .inl zI)), (q16, .inl (cI, 8000, .inl zI)), (q17, .inl (cI, 8000, .inl zI)), (q18, .inl (cI, 8000, .inl zI)), (q19, .inl (cI, 8000, .inl zI)), (q20, .inl (cI, 20000, .inl zI))] H := hP
  have hD : va_D A [(h0, .inr (7, [.int 0, .ref q1, .int 0, .int 0, .int 0, .int 0, .int (-1), .int 0, .int 0, .ref q2, .ref q3, .ref q4, .int 0, .ref q5, .ref q6, .ref q7, .int 0, .ref q8, .ref q9, .ref q10, .int 0, .int 0, .ref q11, .ref q12, .ref q13, .int 0, .int 0, .ref q14, .int 0, .ref q15, .ref q16, .ref q17, .int 0, .int 0, .ref q18, .ref q19, .null, .int 0, .null])), (q1, .inl (cI, 60, .inl zI)), (q2, .inl (cI, 200000, .inl zI)), (q3, .inl (cI, 200000, .inl zI)), (q4, .inl (cI, 200000, .inl zI)), (q5, .inl (cI, 128, .inl zI)), (q6, .inl (cI, 128, .inl zI)), (q7, .inl (cI, 128, .inl zI)), (q8, .inl (cI, 130, .inl zI)), (q9, .inl (cI, 130, .inl zI)), (q10, .inl (cI, 130, .inl zI)), (q11, .inl (cI, 4000, .inl zI)), (q12, .inl (cI, 4000, .inl zI)), (q13, .inl (cI, 4000, .inl zI)), (q14, .inl (cI, 8000, .inl zI)), (q15, .inl (cI, 8000, .inl zI)), (q16, .inl (cI, 8000, .inl zI)), (q17, .inl (cI, 8000, .inl zI)), (q18, .inl (cI, 8000, .inl zI)), (q19, .inl (cI, 8000, .inl zI)), (q20, .inl (cI, 20000, .inl zI))] := hD
  refine W.widen (k := 20) (n := 680834) (Nat.le_of_ble_eq_true rfl) (Nat.le_of_ble_eq_true rfl) ?_
  refine va_putF (D := (dC, dI)) (ci := 7) (v := .ref q20) (ty := .array .int) (C := RX7) (T := TX7) (N := 39) hx hb hg i_X7 tyX7 tyX7_ok nmX7 hown hK hP hD hS 0 rfl rfl 36 (by decide) (hg _ k_119) (fun _ h9 => h9) rfl hin rfl (by decide +kernel) rfl rfl (Nat.le_of_ble_eq_true rfl) dX7_init_182 (fun H locs hP hD hS => ?_)
  have hP : va_P (dC, dI) vwCl [(h0, .inr (7, [.int 0, .ref q1, .int 0, .int 0, .int 0, .int 0, .int (-1), .int 0, .int 0, .ref q2, .ref q3, .ref q4, .int 0, .ref q5, .ref q6, .ref q7, .int 0, .ref q8, .ref q9, .ref q10, .int 0, .int 0, .ref q11, .ref q12, .ref q13, .int 0, .int 0, .ref q14, .int 0, .ref q15, .ref q16, .ref q17, .int 0, .int 0, .ref q18, .ref q19, .ref q20, .int 0, .null])), (q1, .inl (cI, 60, .inl zI)), (q2, .inl (cI, 200000, .inl zI)), (q3, .inl (cI, 200000, .inl zI)), (q4, .inl (cI, 200000, .inl zI)), (q5, .inl (cI, 128, .inl zI)), (q6, .inl (cI, 128, .inl zI)), (q7, .inl (cI, 128, .inl zI)), (q8, .inl (cI, 130, .inl zI)), (q9, .inl (cI, 130, .inl zI)), (q10, .inl (cI, 130, .inl zI)), (q11, .inl (cI, 4000, .inl zI)), (q12, .inl (cI, 4000, .inl zI)), (q13, .inl (cI, 4000, .inl zI)), (q14, .inl (cI, 8000, .inl zI)), (q15, .inl (cI, 8000, .inl zI)), (q16, .inl (cI, 8000, .inl zI)), (q17, .inl (cI, 8000, .inl zI)), (q18, .inl (cI, 8000, .inl zI)), (q19, .inl (cI, 8000, .inl zI)), (q20, .inl (cI, 20000, .inl zI))] H := hP
  have hD : va_D A [(h0, .inr (7, [.int 0, .ref q1, .int 0, .int 0, .int 0, .int 0, .int (-1), .int 0, .int 0, .ref q2, .ref q3, .ref q4, .int 0, .ref q5, .ref q6, .ref q7, .int 0, .ref q8, .ref q9, .ref q10, .int 0, .int 0, .ref q11, .ref q12, .ref q13, .int 0, .int 0, .ref q14, .int 0, .ref q15, .ref q16, .ref q17, .int 0, .int 0, .ref q18, .ref q19, .ref q20, .int 0, .null])), (q1, .inl (cI, 60, .inl zI)), (q2, .inl (cI, 200000, .inl zI)), (q3, .inl (cI, 200000, .inl zI)), (q4, .inl (cI, 200000, .inl zI)), (q5, .inl (cI, 128, .inl zI)), (q6, .inl (cI, 128, .inl zI)), (q7, .inl (cI, 128, .inl zI)), (q8, .inl (cI, 130, .inl zI)), (q9, .inl (cI, 130, .inl zI)), (q10, .inl (cI, 130, .inl zI)), (q11, .inl (cI, 4000, .inl zI)), (q12, .inl (cI, 4000, .inl zI)), (q13, .inl (cI, 4000, .inl zI)), (q14, .inl (cI, 8000, .inl zI)), (q15, .inl (cI, 8000, .inl zI)), (q16, .inl (cI, 8000, .inl zI)), (q17, .inl (cI, 8000, .inl zI)), (q18, .inl (cI, 8000, .inl zI)), (q19, .inl (cI, 8000, .inl zI)), (q20, .inl (cI, 20000, .inl zI))] := hD
  refine lv_aload_n hx hb dX7_init_185 rfl (lv_at hl 0 rfl) ?_
  refine lv_bipush (v := 64) hx hb dX7_init_186 (by decide) ?_
  refine va_newa (atype := .int) (ty := .int) (N' := 64) (a0 := (64, .inl zI)) hx hb (hg _ k_11) rfl hK hP hD hS hA (fun _ => rfl) (by decide) (by decide) (by decide) (Nat.le_of_ble_eq_true rfl) (Nat.le_of_ble_eq_true rfl) dX7_init_188 (fun q21 cA H hK1 hP hD hS => ?_)
  obtain rfl := ty_int hK1
  have hP : va_P (dC, dI) vwCl [(h0, .inr (7, [.int 0, .ref q1, .int 0, .int 0, .int 0, .int 0, .int (-1), .int 0, .int 0, .ref q2, .ref q3, .ref q4, .int 0, .ref q5, .ref q6, .ref q7, .int 0, .ref q8, .ref q9, .ref q10, .int 0, .int 0, .ref q11, .ref q12, .ref q13, .int 0, .int 0, .ref q14, .int 0, .ref q15, .ref q16, .ref q17, .int 0, .int 0, .ref q18, .ref q19, .ref q20, .int 0, .null])), (q1, .inl (cI, 60, .inl zI)), (q2, .inl (cI, 200000, .inl zI)), (q3, .inl (cI, 200000, .inl zI)), (q4, .inl (cI, 200000, .inl zI)), (q5, .inl (cI, 128, .inl zI)), (q6, .inl (cI, 128, .inl zI)), (q7, .inl (cI, 128, .inl zI)), (q8, .inl (cI, 130, .inl zI)), (q9, .inl (cI, 130, .inl zI)), (q10, .inl (cI, 130, .inl zI)), (q11, .inl (cI, 4000, .inl zI)), (q12, .inl (cI, 4000, .inl zI)), (q13, .inl (cI, 4000, .inl zI)), (q14, .inl (cI, 8000, .inl zI)), (q15, .inl (cI, 8000, .inl zI)), (q16, .inl (cI, 8000, .inl zI)), (q17, .inl (cI, 8000, .inl zI)), (q18, .inl (cI, 8000, .inl zI)), (q19, .inl (cI, 8000, .inl zI)), (q20, .inl (cI, 20000, .inl zI)), (q21, .inl (cI, 64, .inl zI))] H := hP
  have hD : va_D A [(h0, .inr (7, [.int 0, .ref q1, .int 0, .int 0, .int 0, .int 0, .int (-1), .int 0, .int 0, .ref q2, .ref q3, .ref q4, .int 0, .ref q5, .ref q6, .ref q7, .int 0, .ref q8, .ref q9, .ref q10, .int 0, .int 0, .ref q11, .ref q12, .ref q13, .int 0, .int 0, .ref q14, .int 0, .ref q15, .ref q16, .ref q17, .int 0, .int 0, .ref q18, .ref q19, .ref q20, .int 0, .null])), (q1, .inl (cI, 60, .inl zI)), (q2, .inl (cI, 200000, .inl zI)), (q3, .inl (cI, 200000, .inl zI)), (q4, .inl (cI, 200000, .inl zI)), (q5, .inl (cI, 128, .inl zI)), (q6, .inl (cI, 128, .inl zI)), (q7, .inl (cI, 128, .inl zI)), (q8, .inl (cI, 130, .inl zI)), (q9, .inl (cI, 130, .inl zI)), (q10, .inl (cI, 130, .inl zI)), (q11, .inl (cI, 4000, .inl zI)), (q12, .inl (cI, 4000, .inl zI)), (q13, .inl (cI, 4000, .inl zI)), (q14, .inl (cI, 8000, .inl zI)), (q15, .inl (cI, 8000, .inl zI)), (q16, .inl (cI, 8000, .inl zI)), (q17, .inl (cI, 8000, .inl zI)), (q18, .inl (cI, 8000, .inl zI)), (q19, .inl (cI, 8000, .inl zI)), (q20, .inl (cI, 20000, .inl zI)), (q21, .inl (cI, 64, .inl zI))] := hD
  refine W.widen (k := 21) (n := 680898) (Nat.le_of_ble_eq_true rfl) (Nat.le_of_ble_eq_true rfl) ?_
  refine va_putF (D := (dC, dI)) (ci := 7) (v := .ref q21) (ty := .array .int) (C := RX7) (T := TX7) (N := 39) hx hb hg i_X7 tyX7 tyX7_ok nmX7 hown hK hP hD hS 0 rfl rfl 38 (by decide) (hg _ k_120) (fun _ h9 => h9) rfl hin rfl (by decide +kernel) rfl rfl (Nat.le_of_ble_eq_true rfl) dX7_init_190 (fun H locs hP hD hS => ?_)
  have hP : va_P (dC, dI) vwCl [(h0, .inr (7, [.int 0, .ref q1, .int 0, .int 0, .int 0, .int 0, .int (-1), .int 0, .int 0, .ref q2, .ref q3, .ref q4, .int 0, .ref q5, .ref q6, .ref q7, .int 0, .ref q8, .ref q9, .ref q10, .int 0, .int 0, .ref q11, .ref q12, .ref q13, .int 0, .int 0, .ref q14, .int 0, .ref q15, .ref q16, .ref q17, .int 0, .int 0, .ref q18, .ref q19, .ref q20, .int 0, .ref q21])), (q1, .inl (cI, 60, .inl zI)), (q2, .inl (cI, 200000, .inl zI)), (q3, .inl (cI, 200000, .inl zI)), (q4, .inl (cI, 200000, .inl zI)), (q5, .inl (cI, 128, .inl zI)), (q6, .inl (cI, 128, .inl zI)), (q7, .inl (cI, 128, .inl zI)), (q8, .inl (cI, 130, .inl zI)), (q9, .inl (cI, 130, .inl zI)), (q10, .inl (cI, 130, .inl zI)), (q11, .inl (cI, 4000, .inl zI)), (q12, .inl (cI, 4000, .inl zI)), (q13, .inl (cI, 4000, .inl zI)), (q14, .inl (cI, 8000, .inl zI)), (q15, .inl (cI, 8000, .inl zI)), (q16, .inl (cI, 8000, .inl zI)), (q17, .inl (cI, 8000, .inl zI)), (q18, .inl (cI, 8000, .inl zI)), (q19, .inl (cI, 8000, .inl zI)), (q20, .inl (cI, 20000, .inl zI)), (q21, .inl (cI, 64, .inl zI))] H := hP
  have hD : va_D A [(h0, .inr (7, [.int 0, .ref q1, .int 0, .int 0, .int 0, .int 0, .int (-1), .int 0, .int 0, .ref q2, .ref q3, .ref q4, .int 0, .ref q5, .ref q6, .ref q7, .int 0, .ref q8, .ref q9, .ref q10, .int 0, .int 0, .ref q11, .ref q12, .ref q13, .int 0, .int 0, .ref q14, .int 0, .ref q15, .ref q16, .ref q17, .int 0, .int 0, .ref q18, .ref q19, .ref q20, .int 0, .ref q21])), (q1, .inl (cI, 60, .inl zI)), (q2, .inl (cI, 200000, .inl zI)), (q3, .inl (cI, 200000, .inl zI)), (q4, .inl (cI, 200000, .inl zI)), (q5, .inl (cI, 128, .inl zI)), (q6, .inl (cI, 128, .inl zI)), (q7, .inl (cI, 128, .inl zI)), (q8, .inl (cI, 130, .inl zI)), (q9, .inl (cI, 130, .inl zI)), (q10, .inl (cI, 130, .inl zI)), (q11, .inl (cI, 4000, .inl zI)), (q12, .inl (cI, 4000, .inl zI)), (q13, .inl (cI, 4000, .inl zI)), (q14, .inl (cI, 8000, .inl zI)), (q15, .inl (cI, 8000, .inl zI)), (q16, .inl (cI, 8000, .inl zI)), (q17, .inl (cI, 8000, .inl zI)), (q18, .inl (cI, 8000, .inl zI)), (q19, .inl (cI, 8000, .inl zI)), (q20, .inl (cI, 20000, .inl zI)), (q21, .inl (cI, 64, .inl zI))] := hD
  have hP9 := hP.sub (ws' := [(h0, .inr (7, [.int 0, .ref q1, .int 0, .int 0, .int 0, .int 0, .int (-1), .int 0, .int 0, .ref q2, .ref q3, .ref q4, .int 0, .ref q5, .ref q6, .ref q7, .int 0, .ref q8, .ref q9, .ref q10, .int 0, .int 0, .ref q11, .ref q12, .ref q13, .int 0, .int 0, .ref q14, .int 0, .ref q15, .ref q16, .ref q17, .int 0, .int 0, .ref q18, .ref q19, .ref q20, .int 0, .ref q21])), (q1, .inl (cI, 60, .inl zI)), (q2, .inl (cI, 200000, .inl zI)), (q3, .inl (cI, 200000, .inl zI)), (q4, .inl (cI, 200000, .inl zI)), (q5, .inl (cI, 128, .inl zI)), (q6, .inl (cI, 128, .inl zI)), (q7, .inl (cI, 128, .inl zI)), (q8, .inl (cI, 130, .inl zI)), (q9, .inl (cI, 130, .inl zI)), (q10, .inl (cI, 130, .inl zI)), (q11, .inl (cI, 4000, .inl zI)), (q12, .inl (cI, 4000, .inl zI)), (q13, .inl (cI, 4000, .inl zI)), (q14, .inl (cI, 8000, .inl zI)), (q15, .inl (cI, 8000, .inl zI)), (q16, .inl (cI, 8000, .inl zI)), (q17, .inl (cI, 8000, .inl zI)), (q18, .inl (cI, 8000, .inl zI)), (q19, .inl (cI, 8000, .inl zI)), (q20, .inl (cI, 20000, .inl zI)), (q21, .inl (cI, 64, .inl zI))]) [0, 1, 2, 3, 4, 5, 6, 7, 8, 9, 10, 11, 12, 13, 14, 15, 16, 17, 18, 19, 20, 21] rfl
  have hD9 := hD.sub (ws' := [(h0, .inr (7, [.int 0, .ref q1, .int 0, .int 0, .int 0, .int 0, .int (-1), .int 0, .int 0, .ref q2, .ref q3, .ref q4, .int 0, .ref q5, .ref q6, .ref q7, .int 0, .ref q8, .ref q9, .ref q10, .int 0, .int 0, .ref q11, .ref q12, .ref q13, .int 0, .int 0, .ref q14, .int 0, .ref q15, .ref q16, .ref q17, .int 0, .int 0, .ref q18, .ref q19, .ref q20, .int 0, .ref q21])), (q1, .inl (cI, 60, .inl zI)), (q2, .inl (cI, 200000, .inl zI)), (q3, .inl (cI, 200000, .inl zI)), (q4, .inl (cI, 200000, .inl zI)), (q5, .inl (cI, 128, .inl zI)), (q6, .inl (cI, 128, .inl zI)), (q7, .inl (cI, 128, .inl zI)), (q8, .inl (cI, 130, .inl zI)), (q9, .inl (cI, 130, .inl zI)), (q10, .inl (cI, 130, .inl zI)), (q11, .inl (cI, 4000, .inl zI)), (q12, .inl (cI, 4000, .inl zI)), (q13, .inl (cI, 4000, .inl zI)), (q14, .inl (cI, 8000, .inl zI)), (q15, .inl (cI, 8000, .inl zI)), (q16, .inl (cI, 8000, .inl zI)), (q17, .inl (cI, 8000, .inl zI)), (q18, .inl (cI, 8000, .inl zI)), (q19, .inl (cI, 8000, .inl zI)), (q20, .inl (cI, 20000, .inl zI)), (q21, .inl (cI, 64, .inl zI))]) [0, 1, 2, 3, 4, 5, 6, 7, 8, 9, 10, 11, 12, 13, 14, 15, 16, 17, 18, 19, 20, 21] (by decide) rfl
  refine W.widen (k := 21) (n := 680898) (Nat.le_of_ble_eq_true rfl) (Nat.le_of_ble_eq_true rfl) ?_
  exact W.vret hx hb hr (fun t ht hW => ⟨⟨(), rfl, trivial, q1, q2, q3, q4, q5, q6, q7, q8, q9, q10, q11, q12, q13, q14, q15, q16, q17, q18, q19, q20, q21, by rw [ht]; exact hP9, hD9⟩, hS.F ht⟩) hS.2.2 dX7_init_193
end
section
/-- the loop of Arrays.fill over a row of 26 -/
theorem lp_fill {p : Program} {l : Launch} {e : Env} {R : Room} {s : State} {m : MethodId} {args : Array Value} {below : List Frame} {meth : Method} {c : Code} {Q : State → Prop} {cells slots : Nat} {dC : Nat → ClassId} {dI : Nat → Nat → Nat} {cI cZ cL : ClassId} {A : Nat → Prop} {a0 : Nat} {x : Int32} (hx : p.tables.exec = Jvm.exec) (hb : c.code = cJ7_fill_53178) (hK : va_K (dC, dI) vwCl (t3 cI cZ cL) s)
    (kk : ∀ (f : Nat → Int32) (H : Heap) (locs : List Loc) (ls : Array Slot), va_P (dC, dI) vwCl [(a0, .inl (cI, 26, .inl f))] H → va_D A [(a0, .inl (cI, 26, .inl f))] → va_S A s.heap H locs → W p l e R s m args below meth c H locs cells slots Q (F0 m 20 ls [])) :
    ∀ (k i : Nat), i + k = 26 → ∀ (f : Nat → Int32) (H : Heap) (locs : List Loc) (ls : Array Slot), va_P (dC, dI) vwCl [(a0, .inl (cI, 26, .inl f))] H → va_D A [(a0, .inl (cI, 26, .inl f))] → va_S A s.heap H locs → lv_has ls 4 [(0, .ref a0), (1, .int x), (2, .int (nI i)), (3, .int 26)] → W p l e R s m args below meth c H locs cells slots Q (F0 m 5 ls []) := by
  intro k
  induction k with
  | zero =>
    intro i hi f H locs ls hP hD hS hl
    refine lv_iload_n hx hb dJ7_fill_53178_5 rfl (lv_at hl 2 rfl) ?_
    refine lv_iload_n hx hb dJ7_fill_53178_6 rfl (lv_at hl 3 rfl) ?_
    refine lv_icmp_ge (tgt := 20) hx hb dJ7_fill_53178_7 (by decide) (fun _ => kk f H locs ls hP hD hS) (fun c9 => absurd ?_ c9)
    exact nI_le (a := 26) (b := i) (by omega) (by omega)
  | succ k ih =>
    intro i hi f H locs ls hP hD hS hl
    refine lv_iload_n hx hb dJ7_fill_53178_5 rfl (lv_at hl 2 rfl) ?_
    refine lv_iload_n hx hb dJ7_fill_53178_6 rfl (lv_at hl 3 rfl) ?_
    refine lv_icmp_ge (tgt := 20) hx hb dJ7_fill_53178_7 (by decide) (fun c9 => absurd c9 (nI_ge (a := i) (b := 26) (by omega) (by omega))) (fun _ => ?_)
    refine lv_aload_n hx hb dJ7_fill_53178_10 rfl (lv_at hl 0 rfl) ?_
    refine lv_iload_n hx hb dJ7_fill_53178_11 rfl (lv_at hl 2 rfl) ?_
    refine lv_iload_n hx hb dJ7_fill_53178_12 rfl (lv_at hl 1 rfl) ?_
    refine va_iast hx hb hK hP hD hS 0 0 rfl rfl (vp_in_nI (by omega) (by omega)) dJ7_fill_53178_13 (fun H locs hP hD hS => ?_)
    obtain ⟨f1, hP, hD⟩ : ∃ g : Nat → Int32, va_P (dC, dI) vwCl [(a0, .inl (cI, 26, .inl g))] H ∧ va_D A [(a0, .inl (cI, 26, .inl g))] := ⟨_, hP, hD⟩
    refine lv_iinc (v := nI (i + 1)) (lv' := [(2, .int (nI (i + 1))), (0, .ref a0), (1, .int x), (3, .int 26)]) hx hb dJ7_fill_53178_14 hl (k := 2) rfl (nI_1 i) (by decide) rfl (fun ls hl => ?_)
    refine lv_goto (tgt := 5) hx hb dJ7_fill_53178_17 (by decide) ?_
    exact ih (i + 1) (by omega) f1 H locs ls hP hD hS (lv_sub hl [1, 2, 0, 3] rfl)

set_option maxHeartbeats 4000000 in
set_option maxRecDepth 100000 in
/-- Arrays.fill over a row of 26 -/
theorem c_fill (l : Launch) (dC : Nat → ClassId) (dI : Nat → Nat → Nat) (cI cZ cL : ClassId) (a0 : Nat) (sz : Nat) (f : Nat → Int32) (x : Int32) : Met l yJ7_fill_53178 (wd yJ7_fill_53178 cJ7_fill_53178 4 none) ({ frames := 0, cells := 0, slots := 0, locals := 0 }) (va_Pc [.ref a0, .int x] (hp dC dI cI cZ cL sz [(a0, .inl (cI, 26, .inl f))])) (va_Qv (fun (_ : Unit) => True) (fun (_ : Unit) t => va_P (dC, dI) vwCl [] t.heap ∧ va_D (va_A [(a0, .inl (cI, 26, .inl f))] sz) []) (va_A [(a0, .inl (cI, 26, .inl f))] sz)) 0 0 (va_A [(a0, .inl (cI, 26, .inl f))] sz) := by
  refine Met.ofW (cc := cJ7_fill_53178) (maxL := 4) (ret := none) (by decide) rfl ?_
  intro p e s m args below meth c s₁ B hml hv
  obtain ⟨rfl, hsz, hP, hK, hD0⟩ := hv
  have hx := B.exec
  have hb := B.bytes
  have hr := B.returns
  have hw9 := atoms_spec (ws := (wd yJ7_fill_53178 cJ7_fill_53178 4 none)) B.pre
  have hg := gw_hts hw9
  have hown : s.vm.findClass RJ7 = some m.cls := findClass_of_methodNamed B.named
  have hlocks := B.notSynchronized
  subst hsz
  have hD := hD0.self (sz := s.heap.size)
  generalize hAe : va_A [(a0, .inl (cI, 26, .inl f))] s.heap.size = A at hD ⊢
  have hA : ∀ q : Nat, s.heap.size ≤ q → A q := fun q h => by rw [← hAe]; exact Or.inr h
  have hS : va_S A s.heap s.heap [] := va_S.rf
  have hl := lv_entry ([.ref a0, .int x]) (n := 4) (Nat.le_of_ble_eq_true rfl)
  rw [lg_entry_eq]
  generalize (lg_sl ([.ref a0, .int x]) ++ List.replicate (4 - (lg_sl ([.ref a0, .int x])).length) Slot.unset).toArray = ls at hl ⊢
  have hl : lv_has ls 4 [(0, .ref a0), (1, .int x)] := hl
  refine lv_iconst (v := 0) hx hb dJ7_fill_53178_0 (by decide) ?_
  refine lv_istore_n (lv' := [(2, .int 0), (0, .ref a0), (1, .int x)]) hx hb dJ7_fill_53178_1 rfl hl (by decide) rfl (fun ls hl => ?_)
  refine lv_aload_n hx hb dJ7_fill_53178_2 rfl (lv_at hl 1 rfl) ?_
  refine va_alen hx hb hK hP 0 0 (ty := .int) rfl rfl (v := 26) rfl dJ7_fill_53178_3 ?_
  refine lv_istore_n (lv' := [(3, .int 26), (2, .int 0), (0, .ref a0), (1, .int x)]) hx hb dJ7_fill_53178_4 rfl hl (by decide) rfl (fun ls hl => ?_)
  refine W.widen (k := 0) (n := 0) (Nat.le_of_ble_eq_true rfl) (Nat.le_of_ble_eq_true rfl) ?_
  refine lp_fill hx hb hK (fun f H locs ls hP hD hS => ?_) 26 0 rfl f _ _ ls hP hD hS (lv_sub hl [2, 3, 1, 0] rfl)
  have hP9 := hP.sub (ws' := []) [] rfl
  have hD9 := hD.sub (ws' := []) [] (by decide) rfl
  refine W.widen (k := 0) (n := 0) (Nat.le_of_ble_eq_true rfl) (Nat.le_of_ble_eq_true rfl) ?_
  exact W.vret hx hb hr (fun t ht hW => ⟨⟨(), rfl, trivial, by rw [ht]; exact hP9, hD9⟩, hS.F ht⟩) hS.2.2 dJ7_fill_53178_20

set_option maxHeartbeats 4000000 in
set_option maxRecDepth 100000 in
/-- Reader.start(0) -/
theorem c_X4_start (l : Launch) (dC : Nat → ClassId) (dI : Nat → Nat → Nat) (cI cZ cL : ClassId) (h0 a1 a2 : Nat) (sz : Nat) (n0 a3 : Nat) : Met l yX4_start (wd yX4_start cX4_start 2 none) ({ frames := 1, cells := 0, slots := 0, locals := 23 }) (va_Pc [.ref h0, .int 0] (hp dC dI cI cZ cL sz [(h0, .inr (4, [.ref n0, .ref a1, .ref a2, .ref a3, .int 0, .int 0, .int 0, .int 0, .int (-1)])), (a1, .inl (cI, 60, .inl zI)), (a2, .inl (cI, 26, .inl zI))])) (va_Qv (fun (_ : Unit) => True) (fun (_ : Unit) t => va_P (dC, dI) vwCl [(h0, .inr (4, [.ref n0, .ref a1, .ref a2, .ref a3, .int 0, .int 0, .int 0, .int 0, .int (-1)]))] t.heap ∧ va_D (va_A [(h0, .inr (4, [.ref n0, .ref a1, .ref a2, .ref a3, .int 0, .int 0, .int 0, .int 0, .int (-1)])), (a1, .inl (cI, 60, .inl zI)), (a2, .inl (cI, 26, .inl zI))] sz) [(h0, .inr (4, [.ref n0, .ref a1, .ref a2, .ref a3, .int 0, .int 0, .int 0, .int 0, .int (-1)]))]) (va_A [(h0, .inr (4, [.ref n0, .ref a1, .ref a2, .ref a3, .int 0, .int 0, .int 0, .int 0, .int (-1)])), (a1, .inl (cI, 60, .inl zI)), (a2, .inl (cI, 26, .inl zI))] sz)) 0 0 (va_A [(h0, .inr (4, [.ref n0, .ref a1, .ref a2, .ref a3, .int 0, .int 0, .int 0, .int 0, .int (-1)])), (a1, .inl (cI, 60, .inl zI)), (a2, .inl (cI, 26, .inl zI))] sz) := by
  refine Met.ofW (cc := cX4_start) (maxL := 2) (ret := none) (by decide) rfl ?_
  intro p e s m args below meth c s₁ B hml hv
  obtain ⟨rfl, hsz, hP, hK, hD0⟩ := hv
  have hx := B.exec
  have hb := B.bytes
  have hr := B.returns
  have hw9 := atoms_spec (ws := (wd yX4_start cX4_start 2 none)) B.pre
  have hg := gw_hts hw9
  have hown : s.vm.findClass RX4 = some m.cls := findClass_of_methodNamed B.named
  have hlocks := B.notSynchronized
  subst hsz
  have hD := hD0.self (sz := s.heap.size)
  generalize hAe : va_A [(h0, .inr (4, [.ref n0, .ref a1, .ref a2, .ref a3, .int 0, .int 0, .int 0, .int 0, .int (-1)])), (a1, .inl (cI, 60, .inl zI)), (a2, .inl (cI, 26, .inl zI))] s.heap.size = A at hD ⊢
  have hA : ∀ q : Nat, s.heap.size ≤ q → A q := fun q h => by rw [← hAe]; exact Or.inr h
  have hS : va_S A s.heap s.heap [] := va_S.rf
  have hl := lv_entry ([.ref h0, .int 0]) (n := 2) (Nat.le_of_ble_eq_true rfl)
  rw [lg_entry_eq]
  generalize (lg_sl ([.ref h0, .int 0]) ++ List.replicate (2 - (lg_sl ([.ref h0, .int 0])).length) Slot.unset).toArray = ls at hl ⊢
  have hl : lv_has ls 2 [(0, .ref h0), (1, .int 0)] := hl
  refine lv_aload_n hx hb dX4_start_0 rfl (lv_at hl 0 rfl) ?_
  refine lv_iload_n hx hb dX4_start_1 rfl (lv_at hl 1 rfl) ?_
  refine lv_aload_n hx hb dX4_start_2 rfl (lv_at hl 0 rfl) ?_
  refine va_get (D := (dC, dI)) (ci := 4) (v := .ref a1) (C := RX4) (T := TX4) (N := 9) hx hb hg i_X4 hown hK hP 0 rfl rfl 1 (by decide) (hg _ k_69) (fun _ h9 => h9) rfl dX4_start_3 ?_
  refine va_alen hx hb hK hP 1 0 (ty := .int) rfl rfl (v := 60) rfl dX4_start_6 ?_
  refine va_mmin hx hb (by rw [hml]; exact hl.1.symm) hown (hg _ k_140) (hg _ k_141) (hg _ k_142) (hg _ k_143) (Nat.le_of_ble_eq_true rfl) (Nat.le_of_ble_eq_true rfl) (Nat.le_of_ble_eq_true rfl) (Nat.le_of_ble_eq_true rfl) dX4_start_7 ?_
  refine lv_topi (fun z1 ez1 => ?_)
  obtain rfl : z1 = 0 := ez1.trans (by decide)
  refine va_put (D := (dC, dI)) (ci := 4) (v := .int 0) (ty := .int) (C := RX4) (T := TX4) (N := 9) hx hb hg i_X4 tyX4 tyX4_ok nmX4 hown hK hP hD hS 0 rfl rfl 5 (by decide) (hg _ k_64) (fun _ h9 => h9) rfl (by decide +kernel) rfl rfl (Nat.le_of_ble_eq_true rfl) dX4_start_10 (fun H locs hP hD hS => ?_)
  have hP : va_P (dC, dI) vwCl [(h0, .inr (4, [.ref n0, .ref a1, .ref a2, .ref a3, .int 0, .int 0, .int 0, .int 0, .int (-1)])), (a1, .inl (cI, 60, .inl zI)), (a2, .inl (cI, 26, .inl zI))] H := hP
  have hD : va_D A [(h0, .inr (4, [.ref n0, .ref a1, .ref a2, .ref a3, .int 0, .int 0, .int 0, .int 0, .int (-1)])), (a1, .inl (cI, 60, .inl zI)), (a2, .inl (cI, 26, .inl zI))] := hD
  refine lv_aload_n hx hb dX4_start_13 rfl (lv_at hl 0 rfl) ?_
  refine lv_iconst (v := 0) hx hb dX4_start_14 (by decide) ?_
  refine va_put (D := (dC, dI)) (ci := 4) (v := .int 0) (ty := .int) (C := RX4) (T := TX4) (N := 9) hx hb hg i_X4 tyX4 tyX4_ok nmX4 hown hK hP hD hS 0 rfl rfl 6 (by decide) (hg _ k_65) (fun _ h9 => h9) rfl (by decide +kernel) rfl rfl (Nat.le_of_ble_eq_true rfl) dX4_start_15 (fun H locs hP hD hS => ?_)
  have hP : va_P (dC, dI) vwCl [(h0, .inr (4, [.ref n0, .ref a1, .ref a2, .ref a3, .int 0, .int 0, .int 0, .int 0, .int (-1)])), (a1, .inl (cI, 60, .inl zI)), (a2, .inl (cI, 26, .inl zI))] H := hP
  have hD : va_D A [(h0, .inr (4, [.ref n0, .ref a1, .ref a2, .ref a3, .int 0, .int 0, .int 0, .int 0, .int (-1)])), (a1, .inl (cI, 60, .inl zI)), (a2, .inl (cI, 26, .inl zI))] := hD
  refine lv_aload_n hx hb dX4_start_18 rfl (lv_at hl 0 rfl) ?_
  refine lv_iconst (v := 0) hx hb dX4_start_19 (by decide) ?_
  refine va_put (D := (dC, dI)) (ci := 4) (v := .int 0) (ty := .int) (C := RX4) (T := TX4) (N := 9) hx hb hg i_X4 tyX4 tyX4_ok nmX4 hown hK hP hD hS 0 rfl rfl 7 (by decide) (hg _ k_66) (fun _ h9 => h9) rfl (by decide +kernel) rfl rfl (Nat.le_of_ble_eq_true rfl) dX4_start_20 (fun H locs hP hD hS => ?_)
  have hP : va_P (dC, dI) vwCl [(h0, .inr (4, [.ref n0, .ref a1, .ref a2, .ref a3, .int 0, .int 0, .int 0, .int 0, .int (-1)])), (a1, .inl (cI, 60, .inl zI)), (a2, .inl (cI, 26, .inl zI))] H := hP
  have hD : va_D A [(h0, .inr (4, [.ref n0, .ref a1, .ref a2, .ref a3, .int 0, .int 0, .int 0, .int 0, .int (-1)])), (a1, .inl (cI, 60, .inl zI)), (a2, .inl (cI, 26, .inl zI))] := hD
  refine lv_aload_n hx hb dX4_start_23 rfl (lv_at hl 0 rfl) ?_
  refine lv_iconst (v := (-1)) hx hb dX4_start_24 (by decide) ?_
  refine va_put (D := (dC, dI)) (ci := 4) (v := .int (-1)) (ty := .int) (C := RX4) (T := TX4) (N := 9) hx hb hg i_X4 tyX4 tyX4_ok nmX4 hown hK hP hD hS 0 rfl rfl 8 (by decide) (hg _ k_67) (fun _ h9 => h9) rfl (by decide +kernel) rfl rfl (Nat.le_of_ble_eq_true rfl) dX4_start_25 (fun H locs hP hD hS => ?_)
  have hP : va_P (dC, dI) vwCl [(h0, .inr (4, [.ref n0, .ref a1, .ref a2, .ref a3, .int 0, .int 0, .int 0, .int 0, .int (-1)])), (a1, .inl (cI, 60, .inl zI)), (a2, .inl (cI, 26, .inl zI))] H := hP
  have hD : va_D A [(h0, .inr (4, [.ref n0, .ref a1, .ref a2, .ref a3, .int 0, .int 0, .int 0, .int 0, .int (-1)])), (a1, .inl (cI, 60, .inl zI)), (a2, .inl (cI, 26, .inl zI))] := hD
  refine lv_aload_n hx hb dX4_start_28 rfl (lv_at hl 0 rfl) ?_
  refine lv_iconst (v := 0) hx hb dX4_start_29 (by decide) ?_
  refine va_put (D := (dC, dI)) (ci := 4) (v := .int 0) (ty := .int) (C := RX4) (T := TX4) (N := 9) hx hb hg i_X4 tyX4 tyX4_ok nmX4 hown hK hP hD hS 0 rfl rfl 4 (by decide) (hg _ k_63) (fun _ h9 => h9) rfl (by decide +kernel) rfl rfl (Nat.le_of_ble_eq_true rfl) dX4_start_30 (fun H locs hP hD hS => ?_)
  have hP : va_P (dC, dI) vwCl [(h0, .inr (4, [.ref n0, .ref a1, .ref a2, .ref a3, .int 0, .int 0, .int 0, .int 0, .int (-1)])), (a1, .inl (cI, 60, .inl zI)), (a2, .inl (cI, 26, .inl zI))] H := hP
  have hD : va_D A [(h0, .inr (4, [.ref n0, .ref a1, .ref a2, .ref a3, .int 0, .int 0, .int 0, .int 0, .int (-1)])), (a1, .inl (cI, 60, .inl zI)), (a2, .inl (cI, 26, .inl zI))] := hD
  refine lv_aload_n hx hb dX4_start_33 rfl (lv_at hl 0 rfl) ?_
  refine va_get (D := (dC, dI)) (ci := 4) (v := .ref a2) (C := RX4) (T := TX4) (N := 9) hx hb hg i_X4 hown hK hP 0 rfl rfl 2 (by decide) (hg _ k_61) (fun _ h9 => h9) rfl dX4_start_34 ?_
  refine lv_iconst (v := 0) hx hb dX4_start_37 (by decide) ?_
  have hPc := hP.sub (ws' := [(a2, .inl (cI, 26, .inl zI))]) [2] rfl
  have hDc := hD.sub (ws' := [(a2, .inl (cI, 26, .inl zI))]) [2] (by decide) rfl
  have hFc := va_free (wc := [(a2, .inl (cI, 26, .inl zI))]) hD hS hA [2] rfl
  refine va_callv (va_runS (As := [.ref a2, .int 0]) (rest := []) ⟨hx, hb, hml, hown, hg⟩ (c_fill l dC dI cI cZ cL a2 (Array.size _) zI 0) (va_cwS 2 hg (gw_S k_144 k_145 k_146 g_yJ7_fill_53178) rfl rfl rfl (by decide +kernel) ⟨(Nat.le_of_ble_eq_true rfl), (Nat.le_of_ble_eq_true rfl)⟩) ⟨hp_bl, fun U hU hW => hp_ok hU hW hPc hK hDc⟩ rfl rfl hl.1 rfl (lv_room (Nat.le_of_ble_eq_true rfl)) dX4_start_38 ⟨(Nat.le_of_ble_eq_true rfl), (Nat.le_of_ble_eq_true rfl)⟩) hS (fun q _ h => hFc q h) hFc (fun u t H locs ht hvm hw hB hz1 hk1 hS => ?_)
  obtain ⟨hP1, hD1⟩ := hB
  rw [ht] at hP1
  obtain ⟨hP, hD⟩ := va_join (wr := [(h0, .inr (4, [.ref n0, .ref a1, .ref a2, .ref a3, .int 0, .int 0, .int 0, .int 0, .int (-1)])), (a1, .inl (cI, 60, .inl zI))]) (w1 := []) hP hD [2] [0, 1] rfl rfl (by decide) (by decide) hk1 hFc hP1 hD1
  have hP : va_P (dC, dI) vwCl [(h0, .inr (4, [.ref n0, .ref a1, .ref a2, .ref a3, .int 0, .int 0, .int 0, .int 0, .int (-1)])), (a1, .inl (cI, 60, .inl zI))] H := hP
  have hD : va_D A [(h0, .inr (4, [.ref n0, .ref a1, .ref a2, .ref a3, .int 0, .int 0, .int 0, .int 0, .int (-1)])), (a1, .inl (cI, 60, .inl zI))] := hD
  refine W.widen (k := 0) (n := 0) (Nat.le_of_ble_eq_true rfl) (Nat.le_of_ble_eq_true rfl) ?_
  have hP9 := hP.sub (ws' := [(h0, .inr (4, [.ref n0, .ref a1, .ref a2, .ref a3, .int 0, .int 0, .int 0, .int 0, .int (-1)]))]) [0] rfl
  have hD9 := hD.sub (ws' := [(h0, .inr (4, [.ref n0, .ref a1, .ref a2, .ref a3, .int 0, .int 0, .int 0, .int 0, .int (-1)]))]) [0] (by decide) rfl
  refine W.widen (k := 0) (n := 0) (Nat.le_of_ble_eq_true rfl) (Nat.le_of_ble_eq_true rfl) ?_
  exact W.vret hx hb hr (fun t ht hW => ⟨⟨(), rfl, trivial, by rw [ht]; exact hP9, hD9⟩, hS.F ht⟩) hS.2.2 dX4_start_41

set_option maxHeartbeats 4000000 in
set_option maxRecDepth 100000 in
/-- Nodes.make(UNIT, NONE, NONE), nothing used -/
theorem c_X2_make (l : Launch) (dC : Nat → ClassId) (dI : Nat → Nat → Nat) (cI cZ cL : ClassId) (h0 b1 b2 b3 b4 b5 : Nat) (sz : Nat)  : Met l yX2_make (wd yX2_make cX2_make 5 (some .int)) ({ frames := 0, cells := 0, slots := 0, locals := 0 }) (va_Pc [.ref h0, .int 0, .int (-1), .int (-1)] (hp dC dI cI cZ cL sz [(h0, .inr (2, [.ref b1, .ref b2, .ref b3, .ref b4, .ref b5, .int 0])), (b1, .inl (cI, 4096, .inl zI)), (b2, .inl (cI, 4096, .inl zI)), (b3, .inl (cI, 4096, .inl zI)), (b4, .inl (cI, 4096, .inl zI)), (b5, .inl (cZ, 4096, .inl zI))])) (va_Qi (fun (r : Int32) (_ : Unit) => r = 0) (fun (_ : Unit) t => va_P (dC, dI) vwCl [] t.heap ∧ va_D (va_A [(h0, .inr (2, [.ref b1, .ref b2, .ref b3, .ref b4, .ref b5, .int 0])), (b1, .inl (cI, 4096, .inl zI)), (b2, .inl (cI, 4096, .inl zI)), (b3, .inl (cI, 4096, .inl zI)), (b4, .inl (cI, 4096, .inl zI)), (b5, .inl (cZ, 4096, .inl zI))] sz) []) (va_A [(h0, .inr (2, [.ref b1, .ref b2, .ref b3, .ref b4, .ref b5, .int 0])), (b1, .inl (cI, 4096, .inl zI)), (b2, .inl (cI, 4096, .inl zI)), (b3, .inl (cI, 4096, .inl zI)), (b4, .inl (cI, 4096, .inl zI)), (b5, .inl (cZ, 4096, .inl zI))] sz)) 0 0 (va_A [(h0, .inr (2, [.ref b1, .ref b2, .ref b3, .ref b4, .ref b5, .int 0])), (b1, .inl (cI, 4096, .inl zI)), (b2, .inl (cI, 4096, .inl zI)), (b3, .inl (cI, 4096, .inl zI)), (b4, .inl (cI, 4096, .inl zI)), (b5, .inl (cZ, 4096, .inl zI))] sz) := by
  refine Met.ofW (cc := cX2_make) (maxL := 5) (ret := (some .int)) (by decide) rfl ?_
  intro p e s m args below meth c s₁ B hml hv
  obtain ⟨rfl, hsz, hP, hK, hD0⟩ := hv
  have hx := B.exec
  have hb := B.bytes
  have hr := B.returns
  have hw9 := atoms_spec (ws := (wd yX2_make cX2_make 5 (some .int))) B.pre
  have hg := gw_hts hw9
  have hown : s.vm.findClass RX2 = some m.cls := findClass_of_methodNamed B.named
  have hlocks := B.notSynchronized
  subst hsz
  have hD := hD0.self (sz := s.heap.size)
  generalize hAe : va_A [(h0, .inr (2, [.ref b1, .ref b2, .ref b3, .ref b4, .ref b5, .int 0])), (b1, .inl (cI, 4096, .inl zI)), (b2, .inl (cI, 4096, .inl zI)), (b3, .inl (cI, 4096, .inl zI)), (b4, .inl (cI, 4096, .inl zI)), (b5, .inl (cZ, 4096, .inl zI))] s.heap.size = A at hD ⊢
  have hA : ∀ q : Nat, s.heap.size ≤ q → A q := fun q h => by rw [← hAe]; exact Or.inr h
  have hS : va_S A s.heap s.heap [] := va_S.rf
  have hl := lv_entry ([.ref h0, .int 0, .int (-1), .int (-1)]) (n := 5) (Nat.le_of_ble_eq_true rfl)
  rw [lg_entry_eq]
  generalize (lg_sl ([.ref h0, .int 0, .int (-1), .int (-1)]) ++ List.replicate (5 - (lg_sl ([.ref h0, .int 0, .int (-1), .int (-1)])).length) Slot.unset).toArray = ls at hl ⊢
  have hl : lv_has ls 5 [(0, .ref h0), (1, .int 0), (2, .int (-1)), (3, .int (-1))] := hl
  refine lv_aload_n hx hb dX2_make_0 rfl (lv_at hl 0 rfl) ?_
  refine va_get (D := (dC, dI)) (ci := 2) (v := .int 0) (C := RX2) (T := TX2) (N := 6) hx hb hg i_X2 hown hK hP 0 rfl rfl 5 (by decide) (hg _ k_52) (fun _ h9 => h9) rfl dX2_make_1 ?_
  refine lv_sipush (v := 4096) hx hb dX2_make_4 (by decide) ?_
  refine lv_icmp_lt (tgt := 12) hx hb dX2_make_7 (by decide) (fun _ => ?_) (fun c9 => absurd (by decide) c9)
  refine lv_aload_n hx hb dX2_make_12 rfl (lv_at hl 0 rfl) ?_
  refine va_get (D := (dC, dI)) (ci := 2) (v := .int 0) (C := RX2) (T := TX2) (N := 6) hx hb hg i_X2 hown hK hP 0 rfl rfl 5 (by decide) (hg _ k_52) (fun _ h9 => h9) rfl dX2_make_13 ?_
  refine lv_istore (lv' := [(4, .int 0), (0, .ref h0), (1, .int 0), (2, .int (-1)), (3, .int (-1))]) hx hb dX2_make_16 hl (by decide) rfl (fun ls hl => ?_)
  refine lv_aload_n hx hb dX2_make_18 rfl (lv_at hl 1 rfl) ?_
  refine lv_dup hx hb dX2_make_19 rfl ?_
  refine va_get (D := (dC, dI)) (ci := 2) (v := .int 0) (C := RX2) (T := TX2) (N := 6) hx hb hg i_X2 hown hK hP 0 rfl rfl 5 (by decide) (hg _ k_52) (fun _ h9 => h9) rfl dX2_make_20 ?_
  refine lv_iconst (v := 1) hx hb dX2_make_23 (by decide) ?_
  refine lv_iadd hx hb dX2_make_24 ?_
  refine lv_topi (fun z1 ez1 => ?_)
  obtain rfl : z1 = 1 := ez1.trans (by decide)
  refine va_put (D := (dC, dI)) (ci := 2) (v := .int 1) (ty := .int) (C := RX2) (T := TX2) (N := 6) hx hb hg i_X2 tyX2 tyX2_ok nmX2 hown hK hP hD hS 0 rfl rfl 5 (by decide) (hg _ k_52) (fun _ h9 => h9) rfl (by decide +kernel) rfl rfl (Nat.le_of_ble_eq_true rfl) dX2_make_25 (fun H locs hP hD hS => ?_)
  have hP : va_P (dC, dI) vwCl [(h0, .inr (2, [.ref b1, .ref b2, .ref b3, .ref b4, .ref b5, .int 1])), (b1, .inl (cI, 4096, .inl zI)), (b2, .inl (cI, 4096, .inl zI)), (b3, .inl (cI, 4096, .inl zI)), (b4, .inl (cI, 4096, .inl zI)), (b5, .inl (cZ, 4096, .inl zI))] H := hP
  have hD : va_D A [(h0, .inr (2, [.ref b1, .ref b2, .ref b3, .ref b4, .ref b5, .int 1])), (b1, .inl (cI, 4096, .inl zI)), (b2, .inl (cI, 4096, .inl zI)), (b3, .inl (cI, 4096, .inl zI)), (b4, .inl (cI, 4096, .inl zI)), (b5, .inl (cZ, 4096, .inl zI))] := hD
  refine lv_aload_n hx hb dX2_make_28 rfl (lv_at hl 1 rfl) ?_
  refine va_get (D := (dC, dI)) (ci := 2) (v := .ref b1) (C := RX2) (T := TX2) (N := 6) hx hb hg i_X2 hown hK hP 0 rfl rfl 0 (by decide) (hg _ k_46) (fun _ h9 => h9) rfl dX2_make_29 ?_
  refine lv_iload hx hb dX2_make_32 (lv_at hl 0 rfl) ?_
  refine lv_iload_n hx hb dX2_make_34 rfl (lv_at hl 2 rfl) ?_
  refine va_iast hx hb hK hP hD hS 1 0 rfl rfl (vp_lit (by decide) (by decide)) dX2_make_35 (fun H locs hP hD hS => ?_)
  generalize upd zI (Int32.toNatClampNeg 0) (0 : Int32) = f2 at hP hD
  have hP : va_P (dC, dI) vwCl [(h0, .inr (2, [.ref b1, .ref b2, .ref b3, .ref b4, .ref b5, .int 1])), (b1, .inl (cI, 4096, .inl f2)), (b2, .inl (cI, 4096, .inl zI)), (b3, .inl (cI, 4096, .inl zI)), (b4, .inl (cI, 4096, .inl zI)), (b5, .inl (cZ, 4096, .inl zI))] H := hP
  have hD : va_D A [(h0, .inr (2, [.ref b1, .ref b2, .ref b3, .ref b4, .ref b5, .int 1])), (b1, .inl (cI, 4096, .inl f2)), (b2, .inl (cI, 4096, .inl zI)), (b3, .inl (cI, 4096, .inl zI)), (b4, .inl (cI, 4096, .inl zI)), (b5, .inl (cZ, 4096, .inl zI))] := hD
  refine lv_aload_n hx hb dX2_make_36 rfl (lv_at hl 1 rfl) ?_
  refine va_get (D := (dC, dI)) (ci := 2) (v := .ref b2) (C := RX2) (T := TX2) (N := 6) hx hb hg i_X2 hown hK hP 0 rfl rfl 1 (by decide) (hg _ k_47) (fun _ h9 => h9) rfl dX2_make_37 ?_
  refine lv_iload hx hb dX2_make_40 (lv_at hl 0 rfl) ?_
  refine lv_iload_n hx hb dX2_make_42 rfl (lv_at hl 3 rfl) ?_
  refine va_iast hx hb hK hP hD hS 2 0 rfl rfl (vp_lit (by decide) (by decide)) dX2_make_43 (fun H locs hP hD hS => ?_)
  generalize upd zI (Int32.toNatClampNeg 0) ((-1) : Int32) = f3 at hP hD
  have hP : va_P (dC, dI) vwCl [(h0, .inr (2, [.ref b1, .ref b2, .ref b3, .ref b4, .ref b5, .int 1])), (b1, .inl (cI, 4096, .inl f2)), (b2, .inl (cI, 4096, .inl f3)), (b3, .inl (cI, 4096, .inl zI)), (b4, .inl (cI, 4096, .inl zI)), (b5, .inl (cZ, 4096, .inl zI))] H := hP
  have hD : va_D A [(h0, .inr (2, [.ref b1, .ref b2, .ref b3, .ref b4, .ref b5, .int 1])), (b1, .inl (cI, 4096, .inl f2)), (b2, .inl (cI, 4096, .inl f3)), (b3, .inl (cI, 4096, .inl zI)), (b4, .inl (cI, 4096, .inl zI)), (b5, .inl (cZ, 4096, .inl zI))] := hD
  refine lv_aload_n hx hb dX2_make_44 rfl (lv_at hl 1 rfl) ?_
  refine va_get (D := (dC, dI)) (ci := 2) (v := .ref b3) (C := RX2) (T := TX2) (N := 6) hx hb hg i_X2 hown hK hP 0 rfl rfl 2 (by decide) (hg _ k_48) (fun _ h9 => h9) rfl dX2_make_45 ?_
  refine lv_iload hx hb dX2_make_48 (lv_at hl 0 rfl) ?_
  refine lv_iload_n hx hb dX2_make_50 rfl (lv_at hl 4 rfl) ?_
  refine va_iast hx hb hK hP hD hS 3 0 rfl rfl (vp_lit (by decide) (by decide)) dX2_make_51 (fun H locs hP hD hS => ?_)
  generalize upd zI (Int32.toNatClampNeg 0) ((-1) : Int32) = f4 at hP hD
  have hP : va_P (dC, dI) vwCl [(h0, .inr (2, [.ref b1, .ref b2, .ref b3, .ref b4, .ref b5, .int 1])), (b1, .inl (cI, 4096, .inl f2)), (b2, .inl (cI, 4096, .inl f3)), (b3, .inl (cI, 4096, .inl f4)), (b4, .inl (cI, 4096, .inl zI)), (b5, .inl (cZ, 4096, .inl zI))] H := hP
  have hD : va_D A [(h0, .inr (2, [.ref b1, .ref b2, .ref b3, .ref b4, .ref b5, .int 1])), (b1, .inl (cI, 4096, .inl f2)), (b2, .inl (cI, 4096, .inl f3)), (b3, .inl (cI, 4096, .inl f4)), (b4, .inl (cI, 4096, .inl zI)), (b5, .inl (cZ, 4096, .inl zI))] := hD
  refine lv_aload_n hx hb dX2_make_52 rfl (lv_at hl 1 rfl) ?_
  refine va_get (D := (dC, dI)) (ci := 2) (v := .ref b4) (C := RX2) (T := TX2) (N := 6) hx hb hg i_X2 hown hK hP 0 rfl rfl 3 (by decide) (hg _ k_49) (fun _ h9 => h9) rfl dX2_make_53 ?_
  refine lv_iload hx hb dX2_make_56 (lv_at hl 0 rfl) ?_
  refine lv_iconst (v := 0) hx hb dX2_make_58 (by decide) ?_
  refine va_iast hx hb hK hP hD hS 4 0 rfl rfl (vp_lit (by decide) (by decide)) dX2_make_59 (fun H locs hP hD hS => ?_)
  generalize upd zI (Int32.toNatClampNeg 0) (0 : Int32) = f5 at hP hD
  have hP : va_P (dC, dI) vwCl [(h0, .inr (2, [.ref b1, .ref b2, .ref b3, .ref b4, .ref b5, .int 1])), (b1, .inl (cI, 4096, .inl f2)), (b2, .inl (cI, 4096, .inl f3)), (b3, .inl (cI, 4096, .inl f4)), (b4, .inl (cI, 4096, .inl f5)), (b5, .inl (cZ, 4096, .inl zI))] H := hP
  have hD : va_D A [(h0, .inr (2, [.ref b1, .ref b2, .ref b3, .ref b4, .ref b5, .int 1])), (b1, .inl (cI, 4096, .inl f2)), (b2, .inl (cI, 4096, .inl f3)), (b3, .inl (cI, 4096, .inl f4)), (b4, .inl (cI, 4096, .inl f5)), (b5, .inl (cZ, 4096, .inl zI))] := hD
  refine lv_aload_n hx hb dX2_make_60 rfl (lv_at hl 1 rfl) ?_
  refine va_get (D := (dC, dI)) (ci := 2) (v := .ref b5) (C := RX2) (T := TX2) (N := 6) hx hb hg i_X2 hown hK hP 0 rfl rfl 4 (by decide) (hg _ k_51) (fun _ h9 => h9) rfl dX2_make_61 ?_
  refine lv_iload hx hb dX2_make_64 (lv_at hl 0 rfl) ?_
  refine lv_iconst (v := 1) hx hb dX2_make_66 (by decide) ?_
  refine va_zast hx hb hK hP hD hS 5 1 rfl rfl (vp_lit (by decide) (by decide)) dX2_make_67 (fun H locs hP hD hS => ?_)
  generalize upd zI (Int32.toNatClampNeg 0) (vp_nar .boolean (1 : Int32)) = f6 at hP hD
  have hP : va_P (dC, dI) vwCl [(h0, .inr (2, [.ref b1, .ref b2, .ref b3, .ref b4, .ref b5, .int 1])), (b1, .inl (cI, 4096, .inl f2)), (b2, .inl (cI, 4096, .inl f3)), (b3, .inl (cI, 4096, .inl f4)), (b4, .inl (cI, 4096, .inl f5)), (b5, .inl (cZ, 4096, .inl f6))] H := hP
  have hD : va_D A [(h0, .inr (2, [.ref b1, .ref b2, .ref b3, .ref b4, .ref b5, .int 1])), (b1, .inl (cI, 4096, .inl f2)), (b2, .inl (cI, 4096, .inl f3)), (b3, .inl (cI, 4096, .inl f4)), (b4, .inl (cI, 4096, .inl f5)), (b5, .inl (cZ, 4096, .inl f6))] := hD
  refine lv_iload hx hb dX2_make_68 (lv_at hl 0 rfl) ?_
  have hP9 := hP.sub (ws' := []) [] rfl
  have hD9 := hD.sub (ws' := []) [] (by decide) rfl
  refine W.widen (k := 0) (n := 0) (Nat.le_of_ble_eq_true rfl) (Nat.le_of_ble_eq_true rfl) ?_
  exact W.iret (v := 0) hx hb hr (fun t ht hW => ⟨⟨0, (), rfl, rfl, by rw [ht]; exact hP9, hD9⟩, hS.F ht⟩) hS.2.2 dX2_make_70

set_option maxHeartbeats 4000000 in
set_option maxRecDepth 100000 in
/-- Nodes.clear() -/
theorem c_X2_clear (l : Launch) (dC : Nat → ClassId) (dI : Nat → Nat → Nat) (cI cZ cL : ClassId) (h0 b1 b2 b3 b4 b5 : Nat) (sz : Nat)  : Met l yX2_clear (wd yX2_clear cX2_clear 1 none) ({ frames := 1, cells := 0, slots := 0, locals := 24 }) (va_Pc [.ref h0] (hp dC dI cI cZ cL sz [(h0, .inr (2, [.ref b1, .ref b2, .ref b3, .ref b4, .ref b5, .int 0])), (b1, .inl (cI, 4096, .inl zI)), (b2, .inl (cI, 4096, .inl zI)), (b3, .inl (cI, 4096, .inl zI)), (b4, .inl (cI, 4096, .inl zI)), (b5, .inl (cZ, 4096, .inl zI))])) (va_Qv (fun (_ : Unit) => True) (fun (_ : Unit) t => va_P (dC, dI) vwCl [] t.heap ∧ va_D (va_A [(h0, .inr (2, [.ref b1, .ref b2, .ref b3, .ref b4, .ref b5, .int 0])), (b1, .inl (cI, 4096, .inl zI)), (b2, .inl (cI, 4096, .inl zI)), (b3, .inl (cI, 4096, .inl zI)), (b4, .inl (cI, 4096, .inl zI)), (b5, .inl (cZ, 4096, .inl zI))] sz) []) (va_A [(h0, .inr (2, [.ref b1, .ref b2, .ref b3, .ref b4, .ref b5, .int 0])), (b1, .inl (cI, 4096, .inl zI)), (b2, .inl (cI, 4096, .inl zI)), (b3, .inl (cI, 4096, .inl zI)), (b4, .inl (cI, 4096, .inl zI)), (b5, .inl (cZ, 4096, .inl zI))] sz)) 0 0 (va_A [(h0, .inr (2, [.ref b1, .ref b2, .ref b3, .ref b4, .ref b5, .int 0])), (b1, .inl (cI, 4096, .inl zI)), (b2, .inl (cI, 4096, .inl zI)), (b3, .inl (cI, 4096, .inl zI)), (b4, .inl (cI, 4096, .inl zI)), (b5, .inl (cZ, 4096, .inl zI))] sz) := by
  refine Met.ofW (cc := cX2_clear) (maxL := 1) (ret := none) (by decide) rfl ?_
  intro p e s m args below meth c s₁ B hml hv
  obtain ⟨rfl, hsz, hP, hK, hD0⟩ := hv
  have hx := B.exec
  have hb := B.bytes
  have hr := B.returns
  have hw9 := atoms_spec (ws := (wd yX2_clear cX2_clear 1 none)) B.pre
  have hg := gw_hts hw9
  have hown : s.vm.findClass RX2 = some m.cls := findClass_of_methodNamed B.named
  have hlocks := B.notSynchronized
  subst hsz
  have hD := hD0.self (sz := s.heap.size)
  generalize hAe : va_A [(h0, .inr (2, [.ref b1, .ref b2, .ref b3, .ref b4, .ref b5, .int 0])), (b1, .inl (cI, 4096, .inl zI)), (b2, .inl (cI, 4096, .inl zI)), (b3, .inl (cI, 4096, .inl zI)), (b4, .inl (cI, 4096, .inl zI)), (b5, .inl (cZ, 4096, .inl zI))] s.heap.size = A at hD ⊢
  have hA : ∀ q : Nat, s.heap.size ≤ q → A q := fun q h => by rw [← hAe]; exact Or.inr h
  have hS : va_S A s.heap s.heap [] := va_S.rf
  have hl := lv_entry ([.ref h0]) (n := 1) (Nat.le_of_ble_eq_true rfl)
  rw [lg_entry_eq]
  generalize (lg_sl ([.ref h0]) ++ List.replicate (1 - (lg_sl ([.ref h0])).length) Slot.unset).toArray = ls at hl ⊢
  have hl : lv_has ls 1 [(0, .ref h0)] := hl
  refine lv_aload_n hx hb dX2_clear_0 rfl (lv_at hl 0 rfl) ?_
  refine lv_iconst (v := 0) hx hb dX2_clear_1 (by decide) ?_
  refine va_put (D := (dC, dI)) (ci := 2) (v := .int 0) (ty := .int) (C := RX2) (T := TX2) (N := 6) hx hb hg i_X2 tyX2 tyX2_ok nmX2 hown hK hP hD hS 0 rfl rfl 5 (by decide) (hg _ k_52) (fun _ h9 => h9) rfl (by decide +kernel) rfl rfl (Nat.le_of_ble_eq_true rfl) dX2_clear_2 (fun H locs hP hD hS => ?_)
  have hP : va_P (dC, dI) vwCl [(h0, .inr (2, [.ref b1, .ref b2, .ref b3, .ref b4, .ref b5, .int 0])), (b1, .inl (cI, 4096, .inl zI)), (b2, .inl (cI, 4096, .inl zI)), (b3, .inl (cI, 4096, .inl zI)), (b4, .inl (cI, 4096, .inl zI)), (b5, .inl (cZ, 4096, .inl zI))] H := hP
  have hD : va_D A [(h0, .inr (2, [.ref b1, .ref b2, .ref b3, .ref b4, .ref b5, .int 0])), (b1, .inl (cI, 4096, .inl zI)), (b2, .inl (cI, 4096, .inl zI)), (b3, .inl (cI, 4096, .inl zI)), (b4, .inl (cI, 4096, .inl zI)), (b5, .inl (cZ, 4096, .inl zI))] := hD
  refine lv_aload_n hx hb dX2_clear_5 rfl (lv_at hl 0 rfl) ?_
  refine lv_iconst (v := 0) hx hb dX2_clear_6 (by decide) ?_
  refine lv_iconst (v := (-1)) hx hb dX2_clear_7 (by decide) ?_
  refine lv_iconst (v := (-1)) hx hb dX2_clear_8 (by decide) ?_
  have hPc := hP.sub (ws' := [(h0, .inr (2, [.ref b1, .ref b2, .ref b3, .ref b4, .ref b5, .int 0])), (b1, .inl (cI, 4096, .inl zI)), (b2, .inl (cI, 4096, .inl zI)), (b3, .inl (cI, 4096, .inl zI)), (b4, .inl (cI, 4096, .inl zI)), (b5, .inl (cZ, 4096, .inl zI))]) [0, 1, 2, 3, 4, 5] rfl
  have hDc := hD.sub (ws' := [(h0, .inr (2, [.ref b1, .ref b2, .ref b3, .ref b4, .ref b5, .int 0])), (b1, .inl (cI, 4096, .inl zI)), (b2, .inl (cI, 4096, .inl zI)), (b3, .inl (cI, 4096, .inl zI)), (b4, .inl (cI, 4096, .inl zI)), (b5, .inl (cZ, 4096, .inl zI))]) [0, 1, 2, 3, 4, 5] (by decide) rfl
  have hFc := va_free (wc := [(h0, .inr (2, [.ref b1, .ref b2, .ref b3, .ref b4, .ref b5, .int 0])), (b1, .inl (cI, 4096, .inl zI)), (b2, .inl (cI, 4096, .inl zI)), (b3, .inl (cI, 4096, .inl zI)), (b4, .inl (cI, 4096, .inl zI)), (b5, .inl (cZ, 4096, .inl zI))]) hD hS hA [0, 1, 2, 3, 4, 5] rfl
  refine va_calli (va_runV (As := [.int 0, .int (-1), .int (-1)]) (rest := []) ⟨hx, hb, hml, hown, hg⟩ (c_X2_make l dC dI cI cZ cL h0 b1 b2 b3 b4 b5 (Array.size _)) (cwV 3 hg (gw_V k_147 k_148 k_149 k_76 g_yX2_make) rfl rfl rfl (by decide +kernel) ⟨(Nat.le_of_ble_eq_true rfl), (Nat.le_of_ble_eq_true rfl)⟩) ⟨hp_bl, va_recv hK hPc (ci := 2) (q0 := 0) rfl rfl, fun U hU hW => hp_ok hU hW hPc hK hDc⟩ rfl rfl hl.1 rfl (lv_room (Nat.le_of_ble_eq_true rfl)) dX2_clear_9 ⟨(Nat.le_of_ble_eq_true rfl), (Nat.le_of_ble_eq_true rfl)⟩) hS (fun q _ h => hFc q h) hFc (fun r9 u t H locs ht hvm hw hB hz1 hk1 hS => ?_)
  obtain ⟨hP1, hD1⟩ := hB
  rw [ht] at hP1
  obtain ⟨hP, hD⟩ := va_join (wr := []) (w1 := []) hP hD [0, 1, 2, 3, 4, 5] [] rfl rfl (by decide) (by decide) hk1 hFc hP1 hD1
  have hP : va_P (dC, dI) vwCl [] H := hP
  have hD : va_D A [] := hD
  refine W.widen (k := 0) (n := 0) (Nat.le_of_ble_eq_true rfl) (Nat.le_of_ble_eq_true rfl) ?_
  obtain rfl : r9 = 0 := hw
  refine lv_pop hx hb dX2_clear_12 rfl ?_
  have hP9 := hP.sub (ws' := []) [] rfl
  have hD9 := hD.sub (ws' := []) [] (by decide) rfl
  refine W.widen (k := 0) (n := 0) (Nat.le_of_ble_eq_true rfl) (Nat.le_of_ble_eq_true rfl) ?_
  exact W.vret hx hb hr (fun t ht hW => ⟨⟨(), rfl, trivial, by rw [ht]; exact hP9, hD9⟩, hS.F ht⟩) hS.2.2 dX2_clear_13

set_option maxHeartbeats 4000000 in
set_option maxRecDepth 100000 in
/-- Context.clear() -/
theorem c_X0_clear (l : Launch) (dC : Nat → ClassId) (dI : Nat → Nat → Nat) (cI cZ cL : ClassId) (h0 : Nat) (sz : Nat) (n0 c1 c2 : Nat) : Met l yX0_clear (wd yX0_clear cX0_clear 1 none) ({ frames := 0, cells := 0, slots := 0, locals := 0 }) (va_Pc [.ref h0] (hp dC dI cI cZ cL sz [(h0, .inr (0, [.ref n0, .ref c1, .ref c2, .int 0]))])) (va_Qv (fun (_ : Unit) => True) (fun (_ : Unit) t => va_P (dC, dI) vwCl [] t.heap ∧ va_D (va_A [(h0, .inr (0, [.ref n0, .ref c1, .ref c2, .int 0]))] sz) []) (va_A [(h0, .inr (0, [.ref n0, .ref c1, .ref c2, .int 0]))] sz)) 0 0 (va_A [(h0, .inr (0, [.ref n0, .ref c1, .ref c2, .int 0]))] sz) := by
  refine Met.ofW (cc := cX0_clear) (maxL := 1) (ret := none) (by decide) rfl ?_
  intro p e s m args below meth c s₁ B hml hv
  obtain ⟨rfl, hsz, hP, hK, hD0⟩ := hv
  have hx := B.exec
  have hb := B.bytes
  have hr := B.returns
  have hw9 := atoms_spec (ws := (wd yX0_clear cX0_clear 1 none)) B.pre
  have hg := gw_hts hw9
  have hown : s.vm.findClass RX0 = some m.cls := findClass_of_methodNamed B.named
  have hlocks := B.notSynchronized
  subst hsz
  have hD := hD0.self (sz := s.heap.size)
  generalize hAe : va_A [(h0, .inr (0, [.ref n0, .ref c1, .ref c2, .int 0]))] s.heap.size = A at hD ⊢
  have hA : ∀ q : Nat, s.heap.size ≤ q → A q := fun q h => by rw [← hAe]; exact Or.inr h
  have hS : va_S A s.heap s.heap [] := va_S.rf
  have hl := lv_entry ([.ref h0]) (n := 1) (Nat.le_of_ble_eq_true rfl)
  rw [lg_entry_eq]
  generalize (lg_sl ([.ref h0]) ++ List.replicate (1 - (lg_sl ([.ref h0])).length) Slot.unset).toArray = ls at hl ⊢
  have hl : lv_has ls 1 [(0, .ref h0)] := hl
  refine lv_aload_n hx hb dX0_clear_0 rfl (lv_at hl 0 rfl) ?_
  refine lv_iconst (v := 0) hx hb dX0_clear_1 (by decide) ?_
  refine va_put (D := (dC, dI)) (ci := 0) (v := .int 0) (ty := .int) (C := RX0) (T := TX0) (N := 4) hx hb hg i_X0 tyX0 tyX0_ok nmX0 hown hK hP hD hS 0 rfl rfl 3 (by decide) (hg _ k_14) (fun _ h9 => h9) rfl (by decide +kernel) rfl rfl (Nat.le_of_ble_eq_true rfl) dX0_clear_2 (fun H locs hP hD hS => ?_)
  have hP : va_P (dC, dI) vwCl [(h0, .inr (0, [.ref n0, .ref c1, .ref c2, .int 0]))] H := hP
  have hD : va_D A [(h0, .inr (0, [.ref n0, .ref c1, .ref c2, .int 0]))] := hD
  have hP9 := hP.sub (ws' := []) [] rfl
  have hD9 := hD.sub (ws' := []) [] (by decide) rfl
  refine W.widen (k := 0) (n := 0) (Nat.le_of_ble_eq_true rfl) (Nat.le_of_ble_eq_true rfl) ?_
  exact W.vret hx hb hr (fun t ht hW => ⟨⟨(), rfl, trivial, by rw [ht]; exact hP9, hD9⟩, hS.F ht⟩) hS.2.2 dX0_clear_5

set_option maxHeartbeats 4000000 in
set_option maxRecDepth 100000 in
/-- Judge.clear() -/
theorem c_X1_clear (l : Launch) (dC : Nat → ClassId) (dI : Nat → Nat → Nat) (cI cZ cL : ClassId) (h0 x0 : Nat) (sz : Nat) (n0 c1 c2 j2 j3 j4 j5 : Nat) : Met l yX1_clear (wd yX1_clear cX1_clear 1 none) ({ frames := 1, cells := 0, slots := 0, locals := 20 }) (va_Pc [.ref h0] (hp dC dI cI cZ cL sz [(h0, .inr (1, [.ref n0, .ref x0, .ref j2, .ref j3, .ref j4, .ref j5, .int 0, .int 0, .int (-1), .int 0, .int 0])), (x0, .inr (0, [.ref n0, .ref c1, .ref c2, .int 0]))])) (va_Qv (fun (_ : Unit) => True) (fun (_ : Unit) t => va_P (dC, dI) vwCl [] t.heap ∧ va_D (va_A [(h0, .inr (1, [.ref n0, .ref x0, .ref j2, .ref j3, .ref j4, .ref j5, .int 0, .int 0, .int (-1), .int 0, .int 0])), (x0, .inr (0, [.ref n0, .ref c1, .ref c2, .int 0]))] sz) []) (va_A [(h0, .inr (1, [.ref n0, .ref x0, .ref j2, .ref j3, .ref j4, .ref j5, .int 0, .int 0, .int (-1), .int 0, .int 0])), (x0, .inr (0, [.ref n0, .ref c1, .ref c2, .int 0]))] sz)) 0 0 (va_A [(h0, .inr (1, [.ref n0, .ref x0, .ref j2, .ref j3, .ref j4, .ref j5, .int 0, .int 0, .int (-1), .int 0, .int 0])), (x0, .inr (0, [.ref n0, .ref c1, .ref c2, .int 0]))] sz) := by
  refine Met.ofW (cc := cX1_clear) (maxL := 1) (ret := none) (by decide) rfl ?_
  intro p e s m args below meth c s₁ B hml hv
  obtain ⟨rfl, hsz, hP, hK, hD0⟩ := hv
  have hx := B.exec
  have hb := B.bytes
  have hr := B.returns
  have hw9 := atoms_spec (ws := (wd yX1_clear cX1_clear 1 none)) B.pre
  have hg := gw_hts hw9
  have hown : s.vm.findClass RX1 = some m.cls := findClass_of_methodNamed B.named
  have hlocks := B.notSynchronized
  subst hsz
  have hD := hD0.self (sz := s.heap.size)
  generalize hAe : va_A [(h0, .inr (1, [.ref n0, .ref x0, .ref j2, .ref j3, .ref j4, .ref j5, .int 0, .int 0, .int (-1), .int 0, .int 0])), (x0, .inr (0, [.ref n0, .ref c1, .ref c2, .int 0]))] s.heap.size = A at hD ⊢
  have hA : ∀ q : Nat, s.heap.size ≤ q → A q := fun q h => by rw [← hAe]; exact Or.inr h
  have hS : va_S A s.heap s.heap [] := va_S.rf
  have hl := lv_entry ([.ref h0]) (n := 1) (Nat.le_of_ble_eq_true rfl)
  rw [lg_entry_eq]
  generalize (lg_sl ([.ref h0]) ++ List.replicate (1 - (lg_sl ([.ref h0])).length) Slot.unset).toArray = ls at hl ⊢
  have hl : lv_has ls 1 [(0, .ref h0)] := hl
  refine lv_aload_n hx hb dX1_clear_0 rfl (lv_at hl 0 rfl) ?_
  refine va_get (D := (dC, dI)) (ci := 1) (v := .ref x0) (C := RX1) (T := TX1) (N := 11) hx hb hg i_X1 hown hK hP 0 rfl rfl 1 (by decide) (hg _ k_38) (fun _ h9 => h9) rfl dX1_clear_1 ?_
  have hPc := hP.sub (ws' := [(x0, .inr (0, [.ref n0, .ref c1, .ref c2, .int 0]))]) [1] rfl
  have hDc := hD.sub (ws' := [(x0, .inr (0, [.ref n0, .ref c1, .ref c2, .int 0]))]) [1] (by decide) rfl
  have hFc := va_free (wc := [(x0, .inr (0, [.ref n0, .ref c1, .ref c2, .int 0]))]) hD hS hA [1] rfl
  refine va_callv (va_runV (As := []) (rest := []) ⟨hx, hb, hml, hown, hg⟩ (c_X0_clear l dC dI cI cZ cL x0 (Array.size _) n0 c1 c2) (cwV 0 hg (gw_V k_150 k_151 k_152 k_35 g_yX0_clear) rfl rfl rfl (by decide +kernel) ⟨(Nat.le_of_ble_eq_true rfl), (Nat.le_of_ble_eq_true rfl)⟩) ⟨hp_bl, va_recv hK hPc (ci := 0) (q0 := 0) rfl rfl, fun U hU hW => hp_ok hU hW hPc hK hDc⟩ rfl rfl hl.1 rfl (lv_room (Nat.le_of_ble_eq_true rfl)) dX1_clear_4 ⟨(Nat.le_of_ble_eq_true rfl), (Nat.le_of_ble_eq_true rfl)⟩) hS (fun q _ h => hFc q h) hFc (fun u t H locs ht hvm hw hB hz1 hk1 hS => ?_)
  obtain ⟨hP1, hD1⟩ := hB
  rw [ht] at hP1
  obtain ⟨hP, hD⟩ := va_join (wr := [(h0, .inr (1, [.ref n0, .ref x0, .ref j2, .ref j3, .ref j4, .ref j5, .int 0, .int 0, .int (-1), .int 0, .int 0]))]) (w1 := []) hP hD [1] [0] rfl rfl (by decide) (by decide) hk1 hFc hP1 hD1
  have hP : va_P (dC, dI) vwCl [(h0, .inr (1, [.ref n0, .ref x0, .ref j2, .ref j3, .ref j4, .ref j5, .int 0, .int 0, .int (-1), .int 0, .int 0]))] H := hP
  have hD : va_D A [(h0, .inr (1, [.ref n0, .ref x0, .ref j2, .ref j3, .ref j4, .ref j5, .int 0, .int 0, .int (-1), .int 0, .int 0]))] := hD
  refine W.widen (k := 0) (n := 0) (Nat.le_of_ble_eq_true rfl) (Nat.le_of_ble_eq_true rfl) ?_
  refine lv_aload_n hx hb dX1_clear_7 rfl (lv_at hl 0 rfl) ?_
  refine lv_iconst (v := 0) hx hb dX1_clear_8 (by decide) ?_
  refine va_put (D := (dC, dI)) (ci := 1) (v := .int 0) (ty := .int) (C := RX1) (T := TX1) (N := 11) hx hb hg i_X1 tyX1 tyX1_ok nmX1 hown hK hP hD hS 0 rfl rfl 6 (by decide) (hg _ k_27) (fun _ h9 => h9) rfl (by decide +kernel) rfl rfl (Nat.le_of_ble_eq_true rfl) dX1_clear_9 (fun H locs hP hD hS => ?_)
  have hP : va_P (dC, dI) vwCl [(h0, .inr (1, [.ref n0, .ref x0, .ref j2, .ref j3, .ref j4, .ref j5, .int 0, .int 0, .int (-1), .int 0, .int 0]))] H := hP
  have hD : va_D A [(h0, .inr (1, [.ref n0, .ref x0, .ref j2, .ref j3, .ref j4, .ref j5, .int 0, .int 0, .int (-1), .int 0, .int 0]))] := hD
  refine lv_aload_n hx hb dX1_clear_12 rfl (lv_at hl 0 rfl) ?_
  refine lv_iconst (v := 0) hx hb dX1_clear_13 (by decide) ?_
  refine va_put (D := (dC, dI)) (ci := 1) (v := .int 0) (ty := .boolean) (C := RX1) (T := TX1) (N := 11) hx hb hg i_X1 tyX1 tyX1_ok nmX1 hown hK hP hD hS 0 rfl rfl 7 (by decide) (hg _ k_28) (fun _ h9 => h9) rfl (by decide +kernel) rfl rfl (Nat.le_of_ble_eq_true rfl) dX1_clear_14 (fun H locs hP hD hS => ?_)
  have hP : va_P (dC, dI) vwCl [(h0, .inr (1, [.ref n0, .ref x0, .ref j2, .ref j3, .ref j4, .ref j5, .int 0, .int 0, .int (-1), .int 0, .int 0]))] H := hP
  have hD : va_D A [(h0, .inr (1, [.ref n0, .ref x0, .ref j2, .ref j3, .ref j4, .ref j5, .int 0, .int 0, .int (-1), .int 0, .int 0]))] := hD
  refine lv_aload_n hx hb dX1_clear_17 rfl (lv_at hl 0 rfl) ?_
  refine lv_iconst (v := (-1)) hx hb dX1_clear_18 (by decide) ?_
  refine va_put (D := (dC, dI)) (ci := 1) (v := .int (-1)) (ty := .int) (C := RX1) (T := TX1) (N := 11) hx hb hg i_X1 tyX1 tyX1_ok nmX1 hown hK hP hD hS 0 rfl rfl 8 (by decide) (hg _ k_29) (fun _ h9 => h9) rfl (by decide +kernel) rfl rfl (Nat.le_of_ble_eq_true rfl) dX1_clear_19 (fun H locs hP hD hS => ?_)
  have hP : va_P (dC, dI) vwCl [(h0, .inr (1, [.ref n0, .ref x0, .ref j2, .ref j3, .ref j4, .ref j5, .int 0, .int 0, .int (-1), .int 0, .int 0]))] H := hP
  have hD : va_D A [(h0, .inr (1, [.ref n0, .ref x0, .ref j2, .ref j3, .ref j4, .ref j5, .int 0, .int 0, .int (-1), .int 0, .int 0]))] := hD
  refine lv_aload_n hx hb dX1_clear_22 rfl (lv_at hl 0 rfl) ?_
  refine lv_iconst (v := 0) hx hb dX1_clear_23 (by decide) ?_
  refine va_put (D := (dC, dI)) (ci := 1) (v := .int 0) (ty := .int) (C := RX1) (T := TX1) (N := 11) hx hb hg i_X1 tyX1 tyX1_ok nmX1 hown hK hP hD hS 0 rfl rfl 9 (by decide) (hg _ k_30) (fun _ h9 => h9) rfl (by decide +kernel) rfl rfl (Nat.le_of_ble_eq_true rfl) dX1_clear_24 (fun H locs hP hD hS => ?_)
  have hP : va_P (dC, dI) vwCl [(h0, .inr (1, [.ref n0, .ref x0, .ref j2, .ref j3, .ref j4, .ref j5, .int 0, .int 0, .int (-1), .int 0, .int 0]))] H := hP
  have hD : va_D A [(h0, .inr (1, [.ref n0, .ref x0, .ref j2, .ref j3, .ref j4, .ref j5, .int 0, .int 0, .int (-1), .int 0, .int 0]))] := hD
  refine lv_aload_n hx hb dX1_clear_27 rfl (lv_at hl 0 rfl) ?_
  refine lv_iconst (v := 0) hx hb dX1_clear_28 (by decide) ?_
  refine va_put (D := (dC, dI)) (ci := 1) (v := .int 0) (ty := .int) (C := RX1) (T := TX1) (N := 11) hx hb hg i_X1 tyX1 tyX1_ok nmX1 hown hK hP hD hS 0 rfl rfl 10 (by decide) (hg _ k_31) (fun _ h9 => h9) rfl (by decide +kernel) rfl rfl (Nat.le_of_ble_eq_true rfl) dX1_clear_29 (fun H locs hP hD hS => ?_)
  have hP : va_P (dC, dI) vwCl [(h0, .inr (1, [.ref n0, .ref x0, .ref j2, .ref j3, .ref j4, .ref j5, .int 0, .int 0, .int (-1), .int 0, .int 0]))] H := hP
  have hD : va_D A [(h0, .inr (1, [.ref n0, .ref x0, .ref j2, .ref j3, .ref j4, .ref j5, .int 0, .int 0, .int (-1), .int 0, .int 0]))] := hD
  have hP9 := hP.sub (ws' := []) [] rfl
  have hD9 := hD.sub (ws' := []) [] (by decide) rfl
  refine W.widen (k := 0) (n := 0) (Nat.le_of_ble_eq_true rfl) (Nat.le_of_ble_eq_true rfl) ?_
  exact W.vret hx hb hr (fun t ht hW => ⟨⟨(), rfl, trivial, by rw [ht]; exact hP9, hD9⟩, hS.F ht⟩) hS.2.2 dX1_clear_32

set_option maxHeartbeats 4000000 in
set_option maxRecDepth 100000 in
/-- Printer.clear() -/
theorem c_X3_clear (l : Launch) (dC : Nat → ClassId) (dI : Nat → Nat → Nat) (cI cZ cL : ClassId) (h0 : Nat) (sz : Nat) (n0 p1 p2 : Nat) : Met l yX3_clear (wd yX3_clear cX3_clear 1 none) ({ frames := 0, cells := 0, slots := 0, locals := 0 }) (va_Pc [.ref h0] (hp dC dI cI cZ cL sz [(h0, .inr (3, [.ref n0, .ref p1, .ref p2, .int 0, .int (-1), .int 0]))])) (va_Qv (fun (_ : Unit) => True) (fun (_ : Unit) t => va_P (dC, dI) vwCl [] t.heap ∧ va_D (va_A [(h0, .inr (3, [.ref n0, .ref p1, .ref p2, .int 0, .int (-1), .int 0]))] sz) []) (va_A [(h0, .inr (3, [.ref n0, .ref p1, .ref p2, .int 0, .int (-1), .int 0]))] sz)) 0 0 (va_A [(h0, .inr (3, [.ref n0, .ref p1, .ref p2, .int 0, .int (-1), .int 0]))] sz) := by
  refine Met.ofW (cc := cX3_clear) (maxL := 1) (ret := none) (by decide) rfl ?_
  intro p e s m args below meth c s₁ B hml hv
  obtain ⟨rfl, hsz, hP, hK, hD0⟩ := hv
  have hx := B.exec
  have hb := B.bytes
  have hr := B.returns
  have hw9 := atoms_spec (ws := (wd yX3_clear cX3_clear 1 none)) B.pre
  have hg := gw_hts hw9
  have hown : s.vm.findClass RX3 = some m.cls := findClass_of_methodNamed B.named
  have hlocks := B.notSynchronized
  subst hsz
  have hD := hD0.self (sz := s.heap.size)
  generalize hAe : va_A [(h0, .inr (3, [.ref n0, .ref p1, .ref p2, .int 0, .int (-1), .int 0]))] s.heap.size = A at hD ⊢
  have hA : ∀ q : Nat, s.heap.size ≤ q → A q := fun q h => by rw [← hAe]; exact Or.inr h
  have hS : va_S A s.heap s.heap [] := va_S.rf
  have hl := lv_entry ([.ref h0]) (n := 1) (Nat.le_of_ble_eq_true rfl)
  rw [lg_entry_eq]
  generalize (lg_sl ([.ref h0]) ++ List.replicate (1 - (lg_sl ([.ref h0])).length) Slot.unset).toArray = ls at hl ⊢
  have hl : lv_has ls 1 [(0, .ref h0)] := hl
  refine lv_aload_n hx hb dX3_clear_0 rfl (lv_at hl 0 rfl) ?_
  refine lv_iconst (v := (-1)) hx hb dX3_clear_1 (by decide) ?_
  refine va_put (D := (dC, dI)) (ci := 3) (v := .int (-1)) (ty := .int) (C := RX3) (T := TX3) (N := 6) hx hb hg i_X3 tyX3 tyX3_ok nmX3 hown hK hP hD hS 0 rfl rfl 4 (by decide) (hg _ k_57) (fun _ h9 => h9) rfl (by decide +kernel) rfl rfl (Nat.le_of_ble_eq_true rfl) dX3_clear_2 (fun H locs hP hD hS => ?_)
  have hP : va_P (dC, dI) vwCl [(h0, .inr (3, [.ref n0, .ref p1, .ref p2, .int 0, .int (-1), .int 0]))] H := hP
  have hD : va_D A [(h0, .inr (3, [.ref n0, .ref p1, .ref p2, .int 0, .int (-1), .int 0]))] := hD
  have hP9 := hP.sub (ws' := []) [] rfl
  have hD9 := hD.sub (ws' := []) [] (by decide) rfl
  refine W.widen (k := 0) (n := 0) (Nat.le_of_ble_eq_true rfl) (Nat.le_of_ble_eq_true rfl) ?_
  exact W.vret hx hb hr (fun t ht hW => ⟨⟨(), rfl, trivial, by rw [ht]; exact hP9, hD9⟩, hS.F ht⟩) hS.2.2 dX3_clear_5

set_option maxHeartbeats 4000000 in
set_option maxRecDepth 100000 in
/-- startText(), nothing fed -/
theorem c_X6_startText (l : Launch) (dC : Nat → ClassId) (dI : Nat → Nat → Nat) (cI cZ cL : ClassId) (h0 a1 n0 b1 b2 b3 b4 b5 r0 a2 j0 x0 p0 : Nat) (sz : Nat) (a3 j2 j3 j4 j5 c1 c2 p1 p2 : Nat) : Met l yX6_startText (wd yX6_startText cX6_startText 1 none) ({ frames := 2, cells := 0, slots := 0, locals := 44 }) (va_Pc [.ref h0] (hp dC dI cI cZ cL sz [(h0, .inr (6, [.ref a1, .int 0, .int (-1), .ref n0, .ref r0, .ref j0, .ref p0])), (a1, .inl (cI, 60, .inl zI)), (n0, .inr (2, [.ref b1, .ref b2, .ref b3, .ref b4, .ref b5, .int 0])), (b1, .inl (cI, 4096, .inl zI)), (b2, .inl (cI, 4096, .inl zI)), (b3, .inl (cI, 4096, .inl zI)), (b4, .inl (cI, 4096, .inl zI)), (b5, .inl (cZ, 4096, .inl zI)), (r0, .inr (4, [.ref n0, .ref a1, .ref a2, .ref a3, .int 0, .int 0, .int 0, .int 0, .int (-1)])), (a2, .inl (cI, 26, .inl zI)), (j0, .inr (1, [.ref n0, .ref x0, .ref j2, .ref j3, .ref j4, .ref j5, .int 0, .int 0, .int (-1), .int 0, .int 0])), (x0, .inr (0, [.ref n0, .ref c1, .ref c2, .int 0])), (p0, .inr (3, [.ref n0, .ref p1, .ref p2, .int 0, .int (-1), .int 0]))])) (va_Qv (fun (_ : Unit) => True) (fun (_ : Unit) t => va_P (dC, dI) vwCl [(h0, .inr (6, [.ref a1, .int 0, .int (-1), .ref n0, .ref r0, .ref j0, .ref p0])), (r0, .inr (4, [.ref n0, .ref a1, .ref a2, .ref a3, .int 0, .int 0, .int 0, .int 0, .int (-1)]))] t.heap ∧ va_D (va_A [(h0, .inr (6, [.ref a1, .int 0, .int (-1), .ref n0, .ref r0, .ref j0, .ref p0])), (a1, .inl (cI, 60, .inl zI)), (n0, .inr (2, [.ref b1, .ref b2, .ref b3, .ref b4, .ref b5, .int 0])), (b1, .inl (cI, 4096, .inl zI)), (b2, .inl (cI, 4096, .inl zI)), (b3, .inl (cI, 4096, .inl zI)), (b4, .inl (cI, 4096, .inl zI)), (b5, .inl (cZ, 4096, .inl zI)), (r0, .inr (4, [.ref n0, .ref a1, .ref a2, .ref a3, .int 0, .int 0, .int 0, .int 0, .int (-1)])), (a2, .inl (cI, 26, .inl zI)), (j0, .inr (1, [.ref n0, .ref x0, .ref j2, .ref j3, .ref j4, .ref j5, .int 0, .int 0, .int (-1), .int 0, .int 0])), (x0, .inr (0, [.ref n0, .ref c1, .ref c2, .int 0])), (p0, .inr (3, [.ref n0, .ref p1, .ref p2, .int 0, .int (-1), .int 0]))] sz) [(h0, .inr (6, [.ref a1, .int 0, .int (-1), .ref n0, .ref r0, .ref j0, .ref p0])), (r0, .inr (4, [.ref n0, .ref a1, .ref a2, .ref a3, .int 0, .int 0, .int 0, .int 0, .int (-1)]))]) (va_A [(h0, .inr (6, [.ref a1, .int 0, .int (-1), .ref n0, .ref r0, .ref j0, .ref p0])), (a1, .inl (cI, 60, .inl zI)), (n0, .inr (2, [.ref b1, .ref b2, .ref b3, .ref b4, .ref b5, .int 0])), (b1, .inl (cI, 4096, .inl zI)), (b2, .inl (cI, 4096, .inl zI)), (b3, .inl (cI, 4096, .inl zI)), (b4, .inl (cI, 4096, .inl zI)), (b5, .inl (cZ, 4096, .inl zI)), (r0, .inr (4, [.ref n0, .ref a1, .ref a2, .ref a3, .int 0, .int 0, .int 0, .int 0, .int (-1)])), (a2, .inl (cI, 26, .inl zI)), (j0, .inr (1, [.ref n0, .ref x0, .ref j2, .ref j3, .ref j4, .ref j5, .int 0, .int 0, .int (-1), .int 0, .int 0])), (x0, .inr (0, [.ref n0, .ref c1, .ref c2, .int 0])), (p0, .inr (3, [.ref n0, .ref p1, .ref p2, .int 0, .int (-1), .int 0]))] sz)) 0 0 (va_A [(h0, .inr (6, [.ref a1, .int 0, .int (-1), .ref n0, .ref r0, .ref j0, .ref p0])), (a1, .inl (cI, 60, .inl zI)), (n0, .inr (2, [.ref b1, .ref b2, .ref b3, .ref b4, .ref b5, .int 0])), (b1, .inl (cI, 4096, .inl zI)), (b2, .inl (cI, 4096, .inl zI)), (b3, .inl (cI, 4096, .inl zI)), (b4, .inl (cI, 4096, .inl zI)), (b5, .inl (cZ, 4096, .inl zI)), (r0, .inr (4, [.ref n0, .ref a1, .ref a2, .ref a3, .int 0, .int 0, .int 0, .int 0, .int (-1)])), (a2, .inl (cI, 26, .inl zI)), (j0, .inr (1, [.ref n0, .ref x0, .ref j2, .ref j3, .ref j4, .ref j5, .int 0, .int 0, .int (-1), .int 0, .int 0])), (x0, .inr (0, [.ref n0, .ref c1, .ref c2, .int 0])), (p0, .inr (3, [.ref n0, .ref p1, .ref p2, .int 0, .int (-1), .int 0]))] sz) := by
  refine Met.ofW (cc := cX6_startText) (maxL := 1) (ret := none) (by decide) rfl ?_
  intro p e s m args below meth c s₁ B hml hv
  obtain ⟨rfl, hsz, hP, hK, hD0⟩ := hv
  have hx := B.exec
  have hb := B.bytes
  have hr := B.returns
  have hw9 := atoms_spec (ws := (wd yX6_startText cX6_startText 1 none)) B.pre
  have hg := gw_hts hw9
  have hown : s.vm.findClass RX6 = some m.cls := findClass_of_methodNamed B.named
  have hlocks := B.notSynchronized
  subst hsz
  have hD := hD0.self (sz := s.heap.size)
  generalize hAe : va_A [(h0, .inr (6, [.ref a1, .int 0, .int (-1), .ref n0, .ref r0, .ref j0, .ref p0])), (a1, .inl (cI, 60, .inl zI)), (n0, .inr (2, [.ref b1, .ref b2, .ref b3, .ref b4, .ref b5, .int 0])), (b1, .inl (cI, 4096, .inl zI)), (b2, .inl (cI, 4096, .inl zI)), (b3, .inl (cI, 4096, .inl zI)), (b4, .inl (cI, 4096, .inl zI)), (b5, .inl (cZ, 4096, .inl zI)), (r0, .inr (4, [.ref n0, .ref a1, .ref a2, .ref a3, .int 0, .int 0, .int 0, .int 0, .int (-1)])), (a2, .inl (cI, 26, .inl zI)), (j0, .inr (1, [.ref n0, .ref x0, .ref j2, .ref j3, .ref j4, .ref j5, .int 0, .int 0, .int (-1), .int 0, .int 0])), (x0, .inr (0, [.ref n0, .ref c1, .ref c2, .int 0])), (p0, .inr (3, [.ref n0, .ref p1, .ref p2, .int 0, .int (-1), .int 0]))] s.heap.size = A at hD ⊢
  have hA : ∀ q : Nat, s.heap.size ≤ q → A q := fun q h => by rw [← hAe]; exact Or.inr h
  have hS : va_S A s.heap s.heap [] := va_S.rf
  have hl := lv_entry ([.ref h0]) (n := 1) (Nat.le_of_ble_eq_true rfl)
  rw [lg_entry_eq]
  generalize (lg_sl ([.ref h0]) ++ List.replicate (1 - (lg_sl ([.ref h0])).length) Slot.unset).toArray = ls at hl ⊢
  have hl : lv_has ls 1 [(0, .ref h0)] := hl
  refine lv_aload_n hx hb dX6_startText_0 rfl (lv_at hl 0 rfl) ?_
  refine va_get (D := (dC, dI)) (ci := 6) (v := .ref n0) (C := RX6) (T := TX6) (N := 7) hx hb hg i_X6 hown hK hP 0 rfl rfl 3 (by decide) (hg _ k_78) (fun _ h9 => h9) rfl dX6_startText_1 ?_
  have hPc := hP.sub (ws' := [(n0, .inr (2, [.ref b1, .ref b2, .ref b3, .ref b4, .ref b5, .int 0])), (b1, .inl (cI, 4096, .inl zI)), (b2, .inl (cI, 4096, .inl zI)), (b3, .inl (cI, 4096, .inl zI)), (b4, .inl (cI, 4096, .inl zI)), (b5, .inl (cZ, 4096, .inl zI))]) [2, 3, 4, 5, 6, 7] rfl
  have hDc := hD.sub (ws' := [(n0, .inr (2, [.ref b1, .ref b2, .ref b3, .ref b4, .ref b5, .int 0])), (b1, .inl (cI, 4096, .inl zI)), (b2, .inl (cI, 4096, .inl zI)), (b3, .inl (cI, 4096, .inl zI)), (b4, .inl (cI, 4096, .inl zI)), (b5, .inl (cZ, 4096, .inl zI))]) [2, 3, 4, 5, 6, 7] (by decide) rfl
  have hFc := va_free (wc := [(n0, .inr (2, [.ref b1, .ref b2, .ref b3, .ref b4, .ref b5, .int 0])), (b1, .inl (cI, 4096, .inl zI)), (b2, .inl (cI, 4096, .inl zI)), (b3, .inl (cI, 4096, .inl zI)), (b4, .inl (cI, 4096, .inl zI)), (b5, .inl (cZ, 4096, .inl zI))]) hD hS hA [2, 3, 4, 5, 6, 7] rfl
  refine va_callv (va_runV (As := []) (rest := []) ⟨hx, hb, hml, hown, hg⟩ (c_X2_clear l dC dI cI cZ cL n0 b1 b2 b3 b4 b5 (Array.size _)) (cwV 0 hg (gw_V k_153 k_154 k_155 k_76 g_yX2_clear) rfl rfl rfl (by decide +kernel) ⟨(Nat.le_of_ble_eq_true rfl), (Nat.le_of_ble_eq_true rfl)⟩) ⟨hp_bl, va_recv hK hPc (ci := 2) (q0 := 0) rfl rfl, fun U hU hW => hp_ok hU hW hPc hK hDc⟩ rfl rfl hl.1 rfl (lv_room (Nat.le_of_ble_eq_true rfl)) dX6_startText_4 ⟨(Nat.le_of_ble_eq_true rfl), (Nat.le_of_ble_eq_true rfl)⟩) hS (fun q _ h => hFc q h) hFc (fun u t H locs ht hvm hw hB hz1 hk1 hS => ?_)
  obtain ⟨hP1, hD1⟩ := hB
  rw [ht] at hP1
  obtain ⟨hP, hD⟩ := va_join (wr := [(h0, .inr (6, [.ref a1, .int 0, .int (-1), .ref n0, .ref r0, .ref j0, .ref p0])), (a1, .inl (cI, 60, .inl zI)), (r0, .inr (4, [.ref n0, .ref a1, .ref a2, .ref a3, .int 0, .int 0, .int 0, .int 0, .int (-1)])), (a2, .inl (cI, 26, .inl zI)), (j0, .inr (1, [.ref n0, .ref x0, .ref j2, .ref j3, .ref j4, .ref j5, .int 0, .int 0, .int (-1), .int 0, .int 0])), (x0, .inr (0, [.ref n0, .ref c1, .ref c2, .int 0])), (p0, .inr (3, [.ref n0, .ref p1, .ref p2, .int 0, .int (-1), .int 0]))]) (w1 := []) hP hD [2, 3, 4, 5, 6, 7] [0, 1, 8, 9, 10, 11, 12] rfl rfl (by decide) (by decide) hk1 hFc hP1 hD1
  have hP : va_P (dC, dI) vwCl [(h0, .inr (6, [.ref a1, .int 0, .int (-1), .ref n0, .ref r0, .ref j0, .ref p0])), (a1, .inl (cI, 60, .inl zI)), (r0, .inr (4, [.ref n0, .ref a1, .ref a2, .ref a3, .int 0, .int 0, .int 0, .int 0, .int (-1)])), (a2, .inl (cI, 26, .inl zI)), (j0, .inr (1, [.ref n0, .ref x0, .ref j2, .ref j3, .ref j4, .ref j5, .int 0, .int 0, .int (-1), .int 0, .int 0])), (x0, .inr (0, [.ref n0, .ref c1, .ref c2, .int 0])), (p0, .inr (3, [.ref n0, .ref p1, .ref p2, .int 0, .int (-1), .int 0]))] H := hP
  have hD : va_D A [(h0, .inr (6, [.ref a1, .int 0, .int (-1), .ref n0, .ref r0, .ref j0, .ref p0])), (a1, .inl (cI, 60, .inl zI)), (r0, .inr (4, [.ref n0, .ref a1, .ref a2, .ref a3, .int 0, .int 0, .int 0, .int 0, .int (-1)])), (a2, .inl (cI, 26, .inl zI)), (j0, .inr (1, [.ref n0, .ref x0, .ref j2, .ref j3, .ref j4, .ref j5, .int 0, .int 0, .int (-1), .int 0, .int 0])), (x0, .inr (0, [.ref n0, .ref c1, .ref c2, .int 0])), (p0, .inr (3, [.ref n0, .ref p1, .ref p2, .int 0, .int (-1), .int 0]))] := hD
  refine W.widen (k := 0) (n := 0) (Nat.le_of_ble_eq_true rfl) (Nat.le_of_ble_eq_true rfl) ?_
  refine lv_aload_n hx hb dX6_startText_7 rfl (lv_at hl 0 rfl) ?_
  refine va_get (D := (dC, dI)) (ci := 6) (v := .ref j0) (C := RX6) (T := TX6) (N := 7) hx hb hg i_X6 hown hK hP 0 rfl rfl 5 (by decide) (hg _ k_90) (fun _ h9 => h9) rfl dX6_startText_8 ?_
  have hPc := hP.sub (ws' := [(j0, .inr (1, [.ref n0, .ref x0, .ref j2, .ref j3, .ref j4, .ref j5, .int 0, .int 0, .int (-1), .int 0, .int 0])), (x0, .inr (0, [.ref n0, .ref c1, .ref c2, .int 0]))]) [4, 5] rfl
  have hDc := hD.sub (ws' := [(j0, .inr (1, [.ref n0, .ref x0, .ref j2, .ref j3, .ref j4, .ref j5, .int 0, .int 0, .int (-1), .int 0, .int 0])), (x0, .inr (0, [.ref n0, .ref c1, .ref c2, .int 0]))]) [4, 5] (by decide) rfl
  have hFc := va_free (wc := [(j0, .inr (1, [.ref n0, .ref x0, .ref j2, .ref j3, .ref j4, .ref j5, .int 0, .int 0, .int (-1), .int 0, .int 0])), (x0, .inr (0, [.ref n0, .ref c1, .ref c2, .int 0]))]) hD hS hA [4, 5] rfl
  refine va_callv (va_runV (As := []) (rest := []) ⟨hx, hb, hml, hown, hg⟩ (c_X1_clear l dC dI cI cZ cL j0 x0 (Array.size _) n0 c1 c2 j2 j3 j4 j5) (cwV 0 hg (gw_V k_156 k_157 k_158 k_87 g_yX1_clear) rfl rfl rfl (by decide +kernel) ⟨(Nat.le_of_ble_eq_true rfl), (Nat.le_of_ble_eq_true rfl)⟩) ⟨hp_bl, va_recv hK hPc (ci := 1) (q0 := 0) rfl rfl, fun U hU hW => hp_ok hU hW hPc hK hDc⟩ rfl rfl hl.1 rfl (lv_room (Nat.le_of_ble_eq_true rfl)) dX6_startText_11 ⟨(Nat.le_of_ble_eq_true rfl), (Nat.le_of_ble_eq_true rfl)⟩) hS (fun q _ h => hFc q h) hFc (fun u t H locs ht hvm hw hB hz1 hk1 hS => ?_)
  obtain ⟨hP1, hD1⟩ := hB
  rw [ht] at hP1
  obtain ⟨hP, hD⟩ := va_join (wr := [(h0, .inr (6, [.ref a1, .int 0, .int (-1), .ref n0, .ref r0, .ref j0, .ref p0])), (a1, .inl (cI, 60, .inl zI)), (r0, .inr (4, [.ref n0, .ref a1, .ref a2, .ref a3, .int 0, .int 0, .int 0, .int 0, .int (-1)])), (a2, .inl (cI, 26, .inl zI)), (p0, .inr (3, [.ref n0, .ref p1, .ref p2, .int 0, .int (-1), .int 0]))]) (w1 := []) hP hD [4, 5] [0, 1, 2, 3, 6] rfl rfl (by decide) (by decide) hk1 hFc hP1 hD1
  have hP : va_P (dC, dI) vwCl [(h0, .inr (6, [.ref a1, .int 0, .int (-1), .ref n0, .ref r0, .ref j0, .ref p0])), (a1, .inl (cI, 60, .inl zI)), (r0, .inr (4, [.ref n0, .ref a1, .ref a2, .ref a3, .int 0, .int 0, .int 0, .int 0, .int (-1)])), (a2, .inl (cI, 26, .inl zI)), (p0, .inr (3, [.ref n0, .ref p1, .ref p2, .int 0, .int (-1), .int 0]))] H := hP
  have hD : va_D A [(h0, .inr (6, [.ref a1, .int 0, .int (-1), .ref n0, .ref r0, .ref j0, .ref p0])), (a1, .inl (cI, 60, .inl zI)), (r0, .inr (4, [.ref n0, .ref a1, .ref a2, .ref a3, .int 0, .int 0, .int 0, .int 0, .int (-1)])), (a2, .inl (cI, 26, .inl zI)), (p0, .inr (3, [.ref n0, .ref p1, .ref p2, .int 0, .int (-1), .int 0]))] := hD
  refine W.widen (k := 0) (n := 0) (Nat.le_of_ble_eq_true rfl) (Nat.le_of_ble_eq_true rfl) ?_
  refine lv_aload_n hx hb dX6_startText_14 rfl (lv_at hl 0 rfl) ?_
  refine va_get (D := (dC, dI)) (ci := 6) (v := .ref p0) (C := RX6) (T := TX6) (N := 7) hx hb hg i_X6 hown hK hP 0 rfl rfl 6 (by decide) (hg _ k_96) (fun _ h9 => h9) rfl dX6_startText_15 ?_
  have hPc := hP.sub (ws' := [(p0, .inr (3, [.ref n0, .ref p1, .ref p2, .int 0, .int (-1), .int 0]))]) [4] rfl
  have hDc := hD.sub (ws' := [(p0, .inr (3, [.ref n0, .ref p1, .ref p2, .int 0, .int (-1), .int 0]))]) [4] (by decide) rfl
  have hFc := va_free (wc := [(p0, .inr (3, [.ref n0, .ref p1, .ref p2, .int 0, .int (-1), .int 0]))]) hD hS hA [4] rfl
  refine va_callv (va_runV (As := []) (rest := []) ⟨hx, hb, hml, hown, hg⟩ (c_X3_clear l dC dI cI cZ cL p0 (Array.size _) n0 p1 p2) (cwV 0 hg (gw_V k_159 k_160 k_161 k_93 g_yX3_clear) rfl rfl rfl (by decide +kernel) ⟨(Nat.le_of_ble_eq_true rfl), (Nat.le_of_ble_eq_true rfl)⟩) ⟨hp_bl, va_recv hK hPc (ci := 3) (q0 := 0) rfl rfl, fun U hU hW => hp_ok hU hW hPc hK hDc⟩ rfl rfl hl.1 rfl (lv_room (Nat.le_of_ble_eq_true rfl)) dX6_startText_18 ⟨(Nat.le_of_ble_eq_true rfl), (Nat.le_of_ble_eq_true rfl)⟩) hS (fun q _ h => hFc q h) hFc (fun u t H locs ht hvm hw hB hz1 hk1 hS => ?_)
  obtain ⟨hP1, hD1⟩ := hB
  rw [ht] at hP1
  obtain ⟨hP, hD⟩ := va_join (wr := [(h0, .inr (6, [.ref a1, .int 0, .int (-1), .ref n0, .ref r0, .ref j0, .ref p0])), (a1, .inl (cI, 60, .inl zI)), (r0, .inr (4, [.ref n0, .ref a1, .ref a2, .ref a3, .int 0, .int 0, .int 0, .int 0, .int (-1)])), (a2, .inl (cI, 26, .inl zI))]) (w1 := []) hP hD [4] [0, 1, 2, 3] rfl rfl (by decide) (by decide) hk1 hFc hP1 hD1
  have hP : va_P (dC, dI) vwCl [(h0, .inr (6, [.ref a1, .int 0, .int (-1), .ref n0, .ref r0, .ref j0, .ref p0])), (a1, .inl (cI, 60, .inl zI)), (r0, .inr (4, [.ref n0, .ref a1, .ref a2, .ref a3, .int 0, .int 0, .int 0, .int 0, .int (-1)])), (a2, .inl (cI, 26, .inl zI))] H := hP
  have hD : va_D A [(h0, .inr (6, [.ref a1, .int 0, .int (-1), .ref n0, .ref r0, .ref j0, .ref p0])), (a1, .inl (cI, 60, .inl zI)), (r0, .inr (4, [.ref n0, .ref a1, .ref a2, .ref a3, .int 0, .int 0, .int 0, .int 0, .int (-1)])), (a2, .inl (cI, 26, .inl zI))] := hD
  refine W.widen (k := 0) (n := 0) (Nat.le_of_ble_eq_true rfl) (Nat.le_of_ble_eq_true rfl) ?_
  refine lv_aload_n hx hb dX6_startText_21 rfl (lv_at hl 0 rfl) ?_
  refine va_get (D := (dC, dI)) (ci := 6) (v := .ref r0) (C := RX6) (T := TX6) (N := 7) hx hb hg i_X6 hown hK hP 0 rfl rfl 4 (by decide) (hg _ k_84) (fun _ h9 => h9) rfl dX6_startText_22 ?_
  refine lv_aload_n hx hb dX6_startText_25 rfl (lv_at hl 0 rfl) ?_
  refine va_get (D := (dC, dI)) (ci := 6) (v := .int 0) (C := RX6) (T := TX6) (N := 7) hx hb hg i_X6 hown hK hP 0 rfl rfl 1 (by decide) (hg _ k_72) (fun _ h9 => h9) rfl dX6_startText_26 ?_
  have hPc := hP.sub (ws' := [(r0, .inr (4, [.ref n0, .ref a1, .ref a2, .ref a3, .int 0, .int 0, .int 0, .int 0, .int (-1)])), (a1, .inl (cI, 60, .inl zI)), (a2, .inl (cI, 26, .inl zI))]) [2, 1, 3] rfl
  have hDc := hD.sub (ws' := [(r0, .inr (4, [.ref n0, .ref a1, .ref a2, .ref a3, .int 0, .int 0, .int 0, .int 0, .int (-1)])), (a1, .inl (cI, 60, .inl zI)), (a2, .inl (cI, 26, .inl zI))]) [2, 1, 3] (by decide) rfl
  have hFc := va_free (wc := [(r0, .inr (4, [.ref n0, .ref a1, .ref a2, .ref a3, .int 0, .int 0, .int 0, .int 0, .int (-1)])), (a1, .inl (cI, 60, .inl zI)), (a2, .inl (cI, 26, .inl zI))]) hD hS hA [2, 1, 3] rfl
  refine va_callv (va_runV (As := [.int 0]) (rest := []) ⟨hx, hb, hml, hown, hg⟩ (c_X4_start l dC dI cI cZ cL r0 a1 a2 (Array.size _) n0 a3) (cwV 1 hg (gw_V k_162 k_163 k_164 k_81 g_yX4_start) rfl rfl rfl (by decide +kernel) ⟨(Nat.le_of_ble_eq_true rfl), (Nat.le_of_ble_eq_true rfl)⟩) ⟨hp_bl, va_recv hK hPc (ci := 4) (q0 := 0) rfl rfl, fun U hU hW => hp_ok hU hW hPc hK hDc⟩ rfl rfl hl.1 rfl (lv_room (Nat.le_of_ble_eq_true rfl)) dX6_startText_29 ⟨(Nat.le_of_ble_eq_true rfl), (Nat.le_of_ble_eq_true rfl)⟩) hS (fun q _ h => hFc q h) hFc (fun u t H locs ht hvm hw hB hz1 hk1 hS => ?_)
  obtain ⟨hP1, hD1⟩ := hB
  rw [ht] at hP1
  obtain ⟨hP, hD⟩ := va_join (wr := [(h0, .inr (6, [.ref a1, .int 0, .int (-1), .ref n0, .ref r0, .ref j0, .ref p0]))]) (w1 := [(r0, .inr (4, [.ref n0, .ref a1, .ref a2, .ref a3, .int 0, .int 0, .int 0, .int 0, .int (-1)]))]) hP hD [2, 1, 3] [0] rfl rfl (by decide) (by decide) hk1 hFc hP1 hD1
  have hP : va_P (dC, dI) vwCl [(h0, .inr (6, [.ref a1, .int 0, .int (-1), .ref n0, .ref r0, .ref j0, .ref p0])), (r0, .inr (4, [.ref n0, .ref a1, .ref a2, .ref a3, .int 0, .int 0, .int 0, .int 0, .int (-1)]))] H := hP
  have hD : va_D A [(h0, .inr (6, [.ref a1, .int 0, .int (-1), .ref n0, .ref r0, .ref j0, .ref p0])), (r0, .inr (4, [.ref n0, .ref a1, .ref a2, .ref a3, .int 0, .int 0, .int 0, .int 0, .int (-1)]))] := hD
  refine W.widen (k := 0) (n := 0) (Nat.le_of_ble_eq_true rfl) (Nat.le_of_ble_eq_true rfl) ?_
  refine lv_aload_n hx hb dX6_startText_32 rfl (lv_at hl 0 rfl) ?_
  refine lv_iconst (v := 0) hx hb dX6_startText_33 (by decide) ?_
  refine va_put (D := (dC, dI)) (ci := 6) (v := .int 0) (ty := .int) (C := RX6) (T := TX6) (N := 7) hx hb hg i_X6 tyX6 tyX6_ok nmX6 hown hK hP hD hS 0 rfl rfl 1 (by decide) (hg _ k_72) (fun _ h9 => h9) rfl (by decide +kernel) rfl rfl (Nat.le_of_ble_eq_true rfl) dX6_startText_34 (fun H locs hP hD hS => ?_)
  have hP : va_P (dC, dI) vwCl [(h0, .inr (6, [.ref a1, .int 0, .int (-1), .ref n0, .ref r0, .ref j0, .ref p0])), (r0, .inr (4, [.ref n0, .ref a1, .ref a2, .ref a3, .int 0, .int 0, .int 0, .int 0, .int (-1)]))] H := hP
  have hD : va_D A [(h0, .inr (6, [.ref a1, .int 0, .int (-1), .ref n0, .ref r0, .ref j0, .ref p0])), (r0, .inr (4, [.ref n0, .ref a1, .ref a2, .ref a3, .int 0, .int 0, .int 0, .int 0, .int (-1)]))] := hD
  have hP9 := hP.sub (ws' := [(h0, .inr (6, [.ref a1, .int 0, .int (-1), .ref n0, .ref r0, .ref j0, .ref p0])), (r0, .inr (4, [.ref n0, .ref a1, .ref a2, .ref a3, .int 0, .int 0, .int 0, .int 0, .int (-1)]))]) [0, 1] rfl
  have hD9 := hD.sub (ws' := [(h0, .inr (6, [.ref a1, .int 0, .int (-1), .ref n0, .ref r0, .ref j0, .ref p0])), (r0, .inr (4, [.ref n0, .ref a1, .ref a2, .ref a3, .int 0, .int 0, .int 0, .int 0, .int (-1)]))]) [0, 1] (by decide) rfl
  refine W.widen (k := 0) (n := 0) (Nat.le_of_ble_eq_true rfl) (Nat.le_of_ble_eq_true rfl) ?_
  exact W.vret hx hb hr (fun t ht hW => ⟨⟨(), rfl, trivial, by rw [ht]; exact hP9, hD9⟩, hS.F ht⟩) hS.2.2 dX6_startText_37

set_option maxHeartbeats 4000000 in
set_option maxRecDepth 100000 in
/-- peek() at the end of an empty text -/
theorem c_X4_peek (l : Launch) (dC : Nat → ClassId) (dI : Nat → Nat → Nat) (cI cZ cL : ClassId) (h0 : Nat) (sz : Nat) (n0 a1 a2 a3 : Nat) : Met l yX4_peek (wd yX4_peek cX4_peek 1 (some .int)) ({ frames := 0, cells := 0, slots := 0, locals := 0 }) (va_Pc [.ref h0] (hp dC dI cI cZ cL sz [(h0, .inr (4, [.ref n0, .ref a1, .ref a2, .ref a3, .int 0, .int 0, .int 0, .int 0, .int (-1)]))])) (va_Qi (fun (r : Int32) (_ : Unit) => r = -1) (fun (_ : Unit) t => va_P (dC, dI) vwCl [(h0, .inr (4, [.ref n0, .ref a1, .ref a2, .ref a3, .int 0, .int 0, .int 0, .int 0, .int (-1)]))] t.heap ∧ va_D (va_A [(h0, .inr (4, [.ref n0, .ref a1, .ref a2, .ref a3, .int 0, .int 0, .int 0, .int 0, .int (-1)]))] sz) [(h0, .inr (4, [.ref n0, .ref a1, .ref a2, .ref a3, .int 0, .int 0, .int 0, .int 0, .int (-1)]))]) (va_A [(h0, .inr (4, [.ref n0, .ref a1, .ref a2, .ref a3, .int 0, .int 0, .int 0, .int 0, .int (-1)]))] sz)) 0 0 (va_A [(h0, .inr (4, [.ref n0, .ref a1, .ref a2, .ref a3, .int 0, .int 0, .int 0, .int 0, .int (-1)]))] sz) := by
  refine Met.ofW (cc := cX4_peek) (maxL := 1) (ret := (some .int)) (by decide) rfl ?_
  intro p e s m args below meth c s₁ B hml hv
  obtain ⟨rfl, hsz, hP, hK, hD0⟩ := hv
  have hx := B.exec
  have hb := B.bytes
  have hr := B.returns
  have hw9 := atoms_spec (ws := (wd yX4_peek cX4_peek 1 (some .int))) B.pre
  have hg := gw_hts hw9
  have hown : s.vm.findClass RX4 = some m.cls := findClass_of_methodNamed B.named
  have hlocks := B.notSynchronized
  subst hsz
  have hD := hD0.self (sz := s.heap.size)
  generalize hAe : va_A [(h0, .inr (4, [.ref n0, .ref a1, .ref a2, .ref a3, .int 0, .int 0, .int 0, .int 0, .int (-1)]))] s.heap.size = A at hD ⊢
  have hA : ∀ q : Nat, s.heap.size ≤ q → A q := fun q h => by rw [← hAe]; exact Or.inr h
  have hS : va_S A s.heap s.heap [] := va_S.rf
  have hl := lv_entry ([.ref h0]) (n := 1) (Nat.le_of_ble_eq_true rfl)
  rw [lg_entry_eq]
  generalize (lg_sl ([.ref h0]) ++ List.replicate (1 - (lg_sl ([.ref h0])).length) Slot.unset).toArray = ls at hl ⊢
  have hl : lv_has ls 1 [(0, .ref h0)] := hl
  refine lv_aload_n hx hb dX4_peek_0 rfl (lv_at hl 0 rfl) ?_
  refine va_get (D := (dC, dI)) (ci := 4) (v := .int 0) (C := RX4) (T := TX4) (N := 9) hx hb hg i_X4 hown hK hP 0 rfl rfl 6 (by decide) (hg _ k_65) (fun _ h9 => h9) rfl dX4_peek_1 ?_
  refine lv_aload_n hx hb dX4_peek_4 rfl (lv_at hl 0 rfl) ?_
  refine va_get (D := (dC, dI)) (ci := 4) (v := .int 0) (C := RX4) (T := TX4) (N := 9) hx hb hg i_X4 hown hK hP 0 rfl rfl 5 (by decide) (hg _ k_64) (fun _ h9 => h9) rfl dX4_peek_5 ?_
  refine lv_icmp_ge (tgt := 38) hx hb dX4_peek_8 (by decide) (fun _ => ?_) (fun c9 => absurd (by decide) c9)
  refine lv_aload_n hx hb dX4_peek_38 rfl (lv_at hl 0 rfl) ?_
  refine va_get (D := (dC, dI)) (ci := 4) (v := .int 0) (C := RX4) (T := TX4) (N := 9) hx hb hg i_X4 hown hK hP 0 rfl rfl 6 (by decide) (hg _ k_65) (fun _ h9 => h9) rfl dX4_peek_39 ?_
  refine lv_aload_n hx hb dX4_peek_42 rfl (lv_at hl 0 rfl) ?_
  refine va_get (D := (dC, dI)) (ci := 4) (v := .int 0) (C := RX4) (T := TX4) (N := 9) hx hb hg i_X4 hown hK hP 0 rfl rfl 5 (by decide) (hg _ k_64) (fun _ h9 => h9) rfl dX4_peek_43 ?_
  refine lv_icmp_ge (tgt := 61) hx hb dX4_peek_46 (by decide) (fun _ => ?_) (fun c9 => absurd (by decide) c9)
  refine lv_iconst (v := (-1)) hx hb dX4_peek_61 (by decide) ?_
  have hP9 := hP.sub (ws' := [(h0, .inr (4, [.ref n0, .ref a1, .ref a2, .ref a3, .int 0, .int 0, .int 0, .int 0, .int (-1)]))]) [0] rfl
  have hD9 := hD.sub (ws' := [(h0, .inr (4, [.ref n0, .ref a1, .ref a2, .ref a3, .int 0, .int 0, .int 0, .int 0, .int (-1)]))]) [0] (by decide) rfl
  refine W.widen (k := 0) (n := 0) (Nat.le_of_ble_eq_true rfl) (Nat.le_of_ble_eq_true rfl) ?_
  exact W.iret (v := (-1)) hx hb hr (fun t ht hW => ⟨⟨(-1), (), rfl, rfl, by rw [ht]; exact hP9, hD9⟩, hS.F ht⟩) hS.2.2 dX4_peek_62

set_option maxHeartbeats 4000000 in
set_option maxRecDepth 100000 in
/-- refuse() at 0 -/
theorem c_X4_refuse (l : Launch) (dC : Nat → ClassId) (dI : Nat → Nat → Nat) (cI cZ cL : ClassId) (h0 : Nat) (sz : Nat) (n0 a1 a2 a3 : Nat) : Met l yX4_refuse (wd yX4_refuse cX4_refuse 1 (some .int)) ({ frames := 0, cells := 0, slots := 0, locals := 0 }) (va_Pc [.ref h0] (hp dC dI cI cZ cL sz [(h0, .inr (4, [.ref n0, .ref a1, .ref a2, .ref a3, .int 0, .int 0, .int 0, .int 0, .int (-1)]))])) (va_Qi (fun (r : Int32) (_ : Unit) => r = -1) (fun (_ : Unit) t => va_P (dC, dI) vwCl [(h0, .inr (4, [.ref n0, .ref a1, .ref a2, .ref a3, .int 0, .int 0, .int 0, .int 0, .int 0]))] t.heap ∧ va_D (va_A [(h0, .inr (4, [.ref n0, .ref a1, .ref a2, .ref a3, .int 0, .int 0, .int 0, .int 0, .int (-1)]))] sz) [(h0, .inr (4, [.ref n0, .ref a1, .ref a2, .ref a3, .int 0, .int 0, .int 0, .int 0, .int 0]))]) (va_A [(h0, .inr (4, [.ref n0, .ref a1, .ref a2, .ref a3, .int 0, .int 0, .int 0, .int 0, .int (-1)]))] sz)) 0 0 (va_A [(h0, .inr (4, [.ref n0, .ref a1, .ref a2, .ref a3, .int 0, .int 0, .int 0, .int 0, .int (-1)]))] sz) := by
  refine Met.ofW (cc := cX4_refuse) (maxL := 1) (ret := (some .int)) (by decide) rfl ?_
  intro p e s m args below meth c s₁ B hml hv
  obtain ⟨rfl, hsz, hP, hK, hD0⟩ := hv
  have hx := B.exec
  have hb := B.bytes
  have hr := B.returns
  have hw9 := atoms_spec (ws := (wd yX4_refuse cX4_refuse 1 (some .int))) B.pre
  have hg := gw_hts hw9
  have hown : s.vm.findClass RX4 = some m.cls := findClass_of_methodNamed B.named
  have hlocks := B.notSynchronized
  subst hsz
  have hD := hD0.self (sz := s.heap.size)
  generalize hAe : va_A [(h0, .inr (4, [.ref n0, .ref a1, .ref a2, .ref a3, .int 0, .int 0, .int 0, .int 0, .int (-1)]))] s.heap.size = A at hD ⊢
  have hA : ∀ q : Nat, s.heap.size ≤ q → A q := fun q h => by rw [← hAe]; exact Or.inr h
  have hS : va_S A s.heap s.heap [] := va_S.rf
  have hl := lv_entry ([.ref h0]) (n := 1) (Nat.le_of_ble_eq_true rfl)
  rw [lg_entry_eq]
  generalize (lg_sl ([.ref h0]) ++ List.replicate (1 - (lg_sl ([.ref h0])).length) Slot.unset).toArray = ls at hl ⊢
  have hl : lv_has ls 1 [(0, .ref h0)] := hl
  refine lv_aload_n hx hb dX4_refuse_0 rfl (lv_at hl 0 rfl) ?_
  refine lv_aload_n hx hb dX4_refuse_1 rfl (lv_at hl 0 rfl) ?_
  refine va_get (D := (dC, dI)) (ci := 4) (v := .int 0) (C := RX4) (T := TX4) (N := 9) hx hb hg i_X4 hown hK hP 0 rfl rfl 6 (by decide) (hg _ k_65) (fun _ h9 => h9) rfl dX4_refuse_2 ?_
  refine va_put (D := (dC, dI)) (ci := 4) (v := .int 0) (ty := .int) (C := RX4) (T := TX4) (N := 9) hx hb hg i_X4 tyX4 tyX4_ok nmX4 hown hK hP hD hS 0 rfl rfl 8 (by decide) (hg _ k_67) (fun _ h9 => h9) rfl (by decide +kernel) rfl rfl (Nat.le_of_ble_eq_true rfl) dX4_refuse_5 (fun H locs hP hD hS => ?_)
  have hP : va_P (dC, dI) vwCl [(h0, .inr (4, [.ref n0, .ref a1, .ref a2, .ref a3, .int 0, .int 0, .int 0, .int 0, .int 0]))] H := hP
  have hD : va_D A [(h0, .inr (4, [.ref n0, .ref a1, .ref a2, .ref a3, .int 0, .int 0, .int 0, .int 0, .int 0]))] := hD
  refine lv_iconst (v := (-1)) hx hb dX4_refuse_8 (by decide) ?_
  have hP9 := hP.sub (ws' := [(h0, .inr (4, [.ref n0, .ref a1, .ref a2, .ref a3, .int 0, .int 0, .int 0, .int 0, .int 0]))]) [0] rfl
  have hD9 := hD.sub (ws' := [(h0, .inr (4, [.ref n0, .ref a1, .ref a2, .ref a3, .int 0, .int 0, .int 0, .int 0, .int 0]))]) [0] (by decide) rfl
  refine W.widen (k := 0) (n := 0) (Nat.le_of_ble_eq_true rfl) (Nat.le_of_ble_eq_true rfl) ?_
  exact W.iret (v := (-1)) hx hb hr (fun t ht hW => ⟨⟨(-1), (), rfl, rfl, by rw [ht]; exact hP9, hD9⟩, hS.F ht⟩) hS.2.2 dX4_refuse_9

set_option maxHeartbeats 4000000 in
set_option maxRecDepth 100000 in
/-- isLetter(END) -/
theorem c_X4_isLetter (l : Launch) (dC : Nat → ClassId) (dI : Nat → Nat → Nat) (cI cZ cL : ClassId) (sz : Nat)  : Met l yX4_isLetter (wd yX4_isLetter cX4_isLetter 1 (some .boolean)) ({ frames := 0, cells := 0, slots := 0, locals := 0 }) (va_Pc [.int (-1)] (hp dC dI cI cZ cL sz [])) (va_Qi (fun (r : Int32) (_ : Unit) => r = 0) (fun (_ : Unit) t => va_P (dC, dI) vwCl [] t.heap ∧ va_D (va_A [] sz) []) (va_A [] sz)) 0 0 (va_A [] sz) := by
  refine Met.ofW (cc := cX4_isLetter) (maxL := 1) (ret := (some .boolean)) (by decide) rfl ?_
  intro p e s m args below meth c s₁ B hml hv
  obtain ⟨rfl, hsz, hP, hK, hD0⟩ := hv
  have hx := B.exec
  have hb := B.bytes
  have hr := B.returns
  have hw9 := atoms_spec (ws := (wd yX4_isLetter cX4_isLetter 1 (some .boolean))) B.pre
  have hg := gw_hts hw9
  have hown : s.vm.findClass RX4 = some m.cls := findClass_of_methodNamed B.named
  have hlocks := B.notSynchronized
  subst hsz
  have hD := hD0.self (sz := s.heap.size)
  generalize hAe : va_A [] s.heap.size = A at hD ⊢
  have hA : ∀ q : Nat, s.heap.size ≤ q → A q := fun q h => by rw [← hAe]; exact Or.inr h
  have hS : va_S A s.heap s.heap [] := va_S.rf
  have hl := lv_entry ([.int (-1)]) (n := 1) (Nat.le_of_ble_eq_true rfl)
  rw [lg_entry_eq]
  generalize (lg_sl ([.int (-1)]) ++ List.replicate (1 - (lg_sl ([.int (-1)])).length) Slot.unset).toArray = ls at hl ⊢
  have hl : lv_has ls 1 [(0, .int (-1))] := hl
  refine lv_iload_n hx hb dX4_isLetter_0 rfl (lv_at hl 0 rfl) ?_
  refine lv_bipush (v := 97) hx hb dX4_isLetter_1 (by decide) ?_
  refine lv_icmp_lt (tgt := 16) hx hb dX4_isLetter_3 (by decide) (fun _ => ?_) (fun c9 => absurd (by decide) c9)
  refine lv_iconst (v := 0) hx hb dX4_isLetter_16 (by decide) ?_
  have hP9 := hP.sub (ws' := []) [] rfl
  have hD9 := hD.sub (ws' := []) [] (by decide) rfl
  refine W.widen (k := 0) (n := 0) (Nat.le_of_ble_eq_true rfl) (Nat.le_of_ble_eq_true rfl) ?_
  exact W.zret (ty := .boolean) (v := 0) hx hb hr (by decide) (fun t ht hW => ⟨⟨0, (), rfl, rfl, by rw [ht]; exact hP9, hD9⟩, hS.F ht⟩) hS.2.2 dX4_isLetter_17

set_option maxHeartbeats 4000000 in
set_option maxRecDepth 100000 in
/-- termAtom(0) of an empty text -/
theorem c_X4_termAtom (l : Launch) (dC : Nat → ClassId) (dI : Nat → Nat → Nat) (cI cZ cL : ClassId) (h0 : Nat) (sz : Nat) (n0 a1 a2 a3 : Nat) : Met l yX4_termAtom (wd yX4_termAtom cX4_termAtom 3 (some .int)) ({ frames := 1, cells := 0, slots := 0, locals := 20 }) (va_Pc [.ref h0, .int 0] (hp dC dI cI cZ cL sz [(h0, .inr (4, [.ref n0, .ref a1, .ref a2, .ref a3, .int 0, .int 0, .int 0, .int 0, .int (-1)]))])) (va_Qi (fun (r : Int32) (_ : Unit) => r = -1) (fun (_ : Unit) t => va_P (dC, dI) vwCl [(h0, .inr (4, [.ref n0, .ref a1, .ref a2, .ref a3, .int 0, .int 0, .int 0, .int 0, .int 0]))] t.heap ∧ va_D (va_A [(h0, .inr (4, [.ref n0, .ref a1, .ref a2, .ref a3, .int 0, .int 0, .int 0, .int 0, .int (-1)]))] sz) [(h0, .inr (4, [.ref n0, .ref a1, .ref a2, .ref a3, .int 0, .int 0, .int 0, .int 0, .int 0]))]) (va_A [(h0, .inr (4, [.ref n0, .ref a1, .ref a2, .ref a3, .int 0, .int 0, .int 0, .int 0, .int (-1)]))] sz)) 0 0 (va_A [(h0, .inr (4, [.ref n0, .ref a1, .ref a2, .ref a3, .int 0, .int 0, .int 0, .int 0, .int (-1)]))] sz) := by
  refine Met.ofW (cc := cX4_termAtom) (maxL := 3) (ret := (some .int)) (by decide) rfl ?_
  intro p e s m args below meth c s₁ B hml hv
  obtain ⟨rfl, hsz, hP, hK, hD0⟩ := hv
  have hx := B.exec
  have hb := B.bytes
  have hr := B.returns
  have hw9 := atoms_spec (ws := (wd yX4_termAtom cX4_termAtom 3 (some .int))) B.pre
  have hg := gw_hts hw9
  have hown : s.vm.findClass RX4 = some m.cls := findClass_of_methodNamed B.named
  have hlocks := B.notSynchronized
  subst hsz
  have hD := hD0.self (sz := s.heap.size)
  generalize hAe : va_A [(h0, .inr (4, [.ref n0, .ref a1, .ref a2, .ref a3, .int 0, .int 0, .int 0, .int 0, .int (-1)]))] s.heap.size = A at hD ⊢
  have hA : ∀ q : Nat, s.heap.size ≤ q → A q := fun q h => by rw [← hAe]; exact Or.inr h
  have hS : va_S A s.heap s.heap [] := va_S.rf
  have hl := lv_entry ([.ref h0, .int 0]) (n := 3) (Nat.le_of_ble_eq_true rfl)
  rw [lg_entry_eq]
  generalize (lg_sl ([.ref h0, .int 0]) ++ List.replicate (3 - (lg_sl ([.ref h0, .int 0])).length) Slot.unset).toArray = ls at hl ⊢
  have hl : lv_has ls 3 [(0, .ref h0), (1, .int 0)] := hl
  refine lv_aload_n hx hb dX4_termAtom_0 rfl (lv_at hl 0 rfl) ?_
  have hPc := hP.sub (ws' := [(h0, .inr (4, [.ref n0, .ref a1, .ref a2, .ref a3, .int 0, .int 0, .int 0, .int 0, .int (-1)]))]) [0] rfl
  have hDc := hD.sub (ws' := [(h0, .inr (4, [.ref n0, .ref a1, .ref a2, .ref a3, .int 0, .int 0, .int 0, .int 0, .int (-1)]))]) [0] (by decide) rfl
  have hFc := va_free (wc := [(h0, .inr (4, [.ref n0, .ref a1, .ref a2, .ref a3, .int 0, .int 0, .int 0, .int 0, .int (-1)]))]) hD hS hA [0] rfl
  refine va_calli (va_runV (As := []) (rest := []) ⟨hx, hb, hml, hown, hg⟩ (c_X4_peek l dC dI cI cZ cL h0 (Array.size _) n0 a1 a2 a3) (cwV 0 hg (gw_V k_165 k_166 k_167 k_81 g_yX4_peek) rfl rfl rfl (by decide +kernel) ⟨(Nat.le_of_ble_eq_true rfl), (Nat.le_of_ble_eq_true rfl)⟩) ⟨hp_bl, va_recv hK hPc (ci := 4) (q0 := 0) rfl rfl, fun U hU hW => hp_ok hU hW hPc hK hDc⟩ rfl rfl hl.1 rfl (lv_room (Nat.le_of_ble_eq_true rfl)) dX4_termAtom_1 ⟨(Nat.le_of_ble_eq_true rfl), (Nat.le_of_ble_eq_true rfl)⟩) hS (fun q _ h => hFc q h) hFc (fun r9 u t H locs ht hvm hw hB hz1 hk1 hS => ?_)
  obtain ⟨hP1, hD1⟩ := hB
  rw [ht] at hP1
  obtain ⟨hP, hD⟩ := va_join (wr := []) (w1 := [(h0, .inr (4, [.ref n0, .ref a1, .ref a2, .ref a3, .int 0, .int 0, .int 0, .int 0, .int (-1)]))]) hP hD [0] [] rfl rfl (by decide) (by decide) hk1 hFc hP1 hD1
  have hP : va_P (dC, dI) vwCl [(h0, .inr (4, [.ref n0, .ref a1, .ref a2, .ref a3, .int 0, .int 0, .int 0, .int 0, .int (-1)]))] H := hP
  have hD : va_D A [(h0, .inr (4, [.ref n0, .ref a1, .ref a2, .ref a3, .int 0, .int 0, .int 0, .int 0, .int (-1)]))] := hD
  refine W.widen (k := 0) (n := 0) (Nat.le_of_ble_eq_true rfl) (Nat.le_of_ble_eq_true rfl) ?_
  obtain rfl : r9 = (-1) := hw
  refine lv_istore_n (lv' := [(2, .int (-1)), (0, .ref h0), (1, .int 0)]) hx hb dX4_termAtom_4 rfl hl (by decide) rfl (fun ls hl => ?_)
  refine lv_iload_n hx hb dX4_termAtom_5 rfl (lv_at hl 2 rfl) ?_
  refine lv_bipush (v := 40) hx hb dX4_termAtom_6 (by decide) ?_
  refine lv_icmp_le (tgt := 16) hx hb dX4_termAtom_8 (by decide) (fun _ => ?_) (fun c9 => absurd (by decide) c9)
  refine lv_iload_n hx hb dX4_termAtom_16 rfl (lv_at hl 0 rfl) ?_
  refine lv_bipush (v := 49) hx hb dX4_termAtom_17 (by decide) ?_
  refine lv_icmp_ne (tgt := 44) hx hb dX4_termAtom_19 (by decide) (fun _ => ?_) (fun c9 => absurd c9 (by decide))
  refine lv_iload_n hx hb dX4_termAtom_44 rfl (lv_at hl 0 rfl) ?_
  refine lv_bipush (v := 92) hx hb dX4_termAtom_45 (by decide) ?_
  refine lv_icmp_ne (tgt := 56) hx hb dX4_termAtom_47 (by decide) (fun _ => ?_) (fun c9 => absurd c9 (by decide))
  refine lv_iload_n hx hb dX4_termAtom_56 rfl (lv_at hl 0 rfl) ?_
  refine lv_bipush (v := 40) hx hb dX4_termAtom_57 (by decide) ?_
  refine lv_icmp_ne (tgt := 68) hx hb dX4_termAtom_59 (by decide) (fun _ => ?_) (fun c9 => absurd c9 (by decide))
  refine lv_iload_n hx hb dX4_termAtom_68 rfl (lv_at hl 0 rfl) ?_
  have hPc := hP.sub (ws' := []) [] rfl
  have hDc := hD.sub (ws' := []) [] (by decide) rfl
  have hFc := va_free (wc := []) hD hS hA [] rfl
  refine va_calli (va_runS (As := [.int (-1)]) (rest := []) ⟨hx, hb, hml, hown, hg⟩ (c_X4_isLetter l dC dI cI cZ cL  (Array.size _)) (va_cwS 1 hg (gw_S k_168 k_169 k_81 g_yX4_isLetter) rfl rfl rfl (by decide +kernel) ⟨(Nat.le_of_ble_eq_true rfl), (Nat.le_of_ble_eq_true rfl)⟩) ⟨hp_bl, fun U hU hW => hp_ok hU hW hPc hK hDc⟩ rfl rfl hl.1 rfl (lv_room (Nat.le_of_ble_eq_true rfl)) dX4_termAtom_69 ⟨(Nat.le_of_ble_eq_true rfl), (Nat.le_of_ble_eq_true rfl)⟩) hS (fun q _ h => hFc q h) hFc (fun r9 u t H locs ht hvm hw hB hz1 hk1 hS => ?_)
  obtain ⟨hP1, hD1⟩ := hB
  rw [ht] at hP1
  obtain ⟨hP, hD⟩ := va_join (wr := [(h0, .inr (4, [.ref n0, .ref a1, .ref a2, .ref a3, .int 0, .int 0, .int 0, .int 0, .int (-1)]))]) (w1 := []) hP hD [] [0] rfl rfl (by decide) (by decide) hk1 hFc hP1 hD1
  have hP : va_P (dC, dI) vwCl [(h0, .inr (4, [.ref n0, .ref a1, .ref a2, .ref a3, .int 0, .int 0, .int 0, .int 0, .int (-1)]))] H := hP
  have hD : va_D A [(h0, .inr (4, [.ref n0, .ref a1, .ref a2, .ref a3, .int 0, .int 0, .int 0, .int 0, .int (-1)]))] := hD
  refine W.widen (k := 0) (n := 0) (Nat.le_of_ble_eq_true rfl) (Nat.le_of_ble_eq_true rfl) ?_
  obtain rfl : r9 = 0 := hw
  refine lv_if_eq (tgt := 87) hx hb dX4_termAtom_72 (by decide) (fun _ => ?_) (fun c9 => absurd (by decide) c9)
  refine lv_aload_n hx hb dX4_termAtom_87 rfl (lv_at hl 1 rfl) ?_
  have hPc := hP.sub (ws' := [(h0, .inr (4, [.ref n0, .ref a1, .ref a2, .ref a3, .int 0, .int 0, .int 0, .int 0, .int (-1)]))]) [0] rfl
  have hDc := hD.sub (ws' := [(h0, .inr (4, [.ref n0, .ref a1, .ref a2, .ref a3, .int 0, .int 0, .int 0, .int 0, .int (-1)]))]) [0] (by decide) rfl
  have hFc := va_free (wc := [(h0, .inr (4, [.ref n0, .ref a1, .ref a2, .ref a3, .int 0, .int 0, .int 0, .int 0, .int (-1)]))]) hD hS hA [0] rfl
  refine va_calli (va_runV (As := []) (rest := []) ⟨hx, hb, hml, hown, hg⟩ (c_X4_refuse l dC dI cI cZ cL h0 (Array.size _) n0 a1 a2 a3) (cwV 0 hg (gw_V k_170 k_171 k_172 k_81 g_yX4_refuse) rfl rfl rfl (by decide +kernel) ⟨(Nat.le_of_ble_eq_true rfl), (Nat.le_of_ble_eq_true rfl)⟩) ⟨hp_bl, va_recv hK hPc (ci := 4) (q0 := 0) rfl rfl, fun U hU hW => hp_ok hU hW hPc hK hDc⟩ rfl rfl hl.1 rfl (lv_room (Nat.le_of_ble_eq_true rfl)) dX4_termAtom_88 ⟨(Nat.le_of_ble_eq_true rfl), (Nat.le_of_ble_eq_true rfl)⟩) hS (fun q _ h => hFc q h) hFc (fun r9 u t H locs ht hvm hw hB hz1 hk1 hS => ?_)
  obtain ⟨hP1, hD1⟩ := hB
  rw [ht] at hP1
  obtain ⟨hP, hD⟩ := va_join (wr := []) (w1 := [(h0, .inr (4, [.ref n0, .ref a1, .ref a2, .ref a3, .int 0, .int 0, .int 0, .int 0, .int 0]))]) hP hD [0] [] rfl rfl (by decide) (by decide) hk1 hFc hP1 hD1
  have hP : va_P (dC, dI) vwCl [(h0, .inr (4, [.ref n0, .ref a1, .ref a2, .ref a3, .int 0, .int 0, .int 0, .int 0, .int 0]))] H := hP
  have hD : va_D A [(h0, .inr (4, [.ref n0, .ref a1, .ref a2, .ref a3, .int 0, .int 0, .int 0, .int 0, .int 0]))] := hD
  refine W.widen (k := 0) (n := 0) (Nat.le_of_ble_eq_true rfl) (Nat.le_of_ble_eq_true rfl) ?_
  obtain rfl : r9 = (-1) := hw
  have hP9 := hP.sub (ws' := [(h0, .inr (4, [.ref n0, .ref a1, .ref a2, .ref a3, .int 0, .int 0, .int 0, .int 0, .int 0]))]) [0] rfl
  have hD9 := hD.sub (ws' := [(h0, .inr (4, [.ref n0, .ref a1, .ref a2, .ref a3, .int 0, .int 0, .int 0, .int 0, .int 0]))]) [0] (by decide) rfl
  refine W.widen (k := 0) (n := 0) (Nat.le_of_ble_eq_true rfl) (Nat.le_of_ble_eq_true rfl) ?_
  exact W.iret (v := (-1)) hx hb hr (fun t ht hW => ⟨⟨(-1), (), rfl, rfl, by rw [ht]; exact hP9, hD9⟩, hS.F ht⟩) hS.2.2 dX4_termAtom_91

set_option maxHeartbeats 4000000 in
set_option maxRecDepth 100000 in
/-- term(0) of an empty text -/
theorem c_X4_term (l : Launch) (dC : Nat → ClassId) (dI : Nat → Nat → Nat) (cI cZ cL : ClassId) (h0 : Nat) (sz : Nat) (n0 a1 a2 a3 : Nat) : Met l yX4_term (wd yX4_term cX4_term 5 (some .int)) ({ frames := 2, cells := 0, slots := 0, locals := 42 }) (va_Pc [.ref h0, .int 0] (hp dC dI cI cZ cL sz [(h0, .inr (4, [.ref n0, .ref a1, .ref a2, .ref a3, .int 0, .int 0, .int 0, .int 0, .int (-1)]))])) (va_Qi (fun (r : Int32) (_ : Unit) => r = -1) (fun (_ : Unit) t => va_P (dC, dI) vwCl [(h0, .inr (4, [.ref n0, .ref a1, .ref a2, .ref a3, .int 0, .int 0, .int 0, .int 0, .int 0]))] t.heap ∧ va_D (va_A [(h0, .inr (4, [.ref n0, .ref a1, .ref a2, .ref a3, .int 0, .int 0, .int 0, .int 0, .int (-1)]))] sz) [(h0, .inr (4, [.ref n0, .ref a1, .ref a2, .ref a3, .int 0, .int 0, .int 0, .int 0, .int 0]))]) (va_A [(h0, .inr (4, [.ref n0, .ref a1, .ref a2, .ref a3, .int 0, .int 0, .int 0, .int 0, .int (-1)]))] sz)) 0 0 (va_A [(h0, .inr (4, [.ref n0, .ref a1, .ref a2, .ref a3, .int 0, .int 0, .int 0, .int 0, .int (-1)]))] sz) := by
  refine Met.ofW (cc := cX4_term) (maxL := 5) (ret := (some .int)) (by decide) rfl ?_
  intro p e s m args below meth c s₁ B hml hv
  obtain ⟨rfl, hsz, hP, hK, hD0⟩ := hv
  have hx := B.exec
  have hb := B.bytes
  have hr := B.returns
  have hw9 := atoms_spec (ws := (wd yX4_term cX4_term 5 (some .int))) B.pre
  have hg := gw_hts hw9
  have hown : s.vm.findClass RX4 = some m.cls := findClass_of_methodNamed B.named
  have hlocks := B.notSynchronized
  subst hsz
  have hD := hD0.self (sz := s.heap.size)
  generalize hAe : va_A [(h0, .inr (4, [.ref n0, .ref a1, .ref a2, .ref a3, .int 0, .int 0, .int 0, .int 0, .int (-1)]))] s.heap.size = A at hD ⊢
  have hA : ∀ q : Nat, s.heap.size ≤ q → A q := fun q h => by rw [← hAe]; exact Or.inr h
  have hS : va_S A s.heap s.heap [] := va_S.rf
  have hl := lv_entry ([.ref h0, .int 0]) (n := 5) (Nat.le_of_ble_eq_true rfl)
  rw [lg_entry_eq]
  generalize (lg_sl ([.ref h0, .int 0]) ++ List.replicate (5 - (lg_sl ([.ref h0, .int 0])).length) Slot.unset).toArray = ls at hl ⊢
  have hl : lv_has ls 5 [(0, .ref h0), (1, .int 0)] := hl
  refine lv_aload_n hx hb dX4_term_0 rfl (lv_at hl 0 rfl) ?_
  refine lv_iload_n hx hb dX4_term_1 rfl (lv_at hl 1 rfl) ?_
  have hPc := hP.sub (ws' := [(h0, .inr (4, [.ref n0, .ref a1, .ref a2, .ref a3, .int 0, .int 0, .int 0, .int 0, .int (-1)]))]) [0] rfl
  have hDc := hD.sub (ws' := [(h0, .inr (4, [.ref n0, .ref a1, .ref a2, .ref a3, .int 0, .int 0, .int 0, .int 0, .int (-1)]))]) [0] (by decide) rfl
  have hFc := va_free (wc := [(h0, .inr (4, [.ref n0, .ref a1, .ref a2, .ref a3, .int 0, .int 0, .int 0, .int 0, .int (-1)]))]) hD hS hA [0] rfl
  refine va_calli (va_runV (As := [.int 0]) (rest := []) ⟨hx, hb, hml, hown, hg⟩ (c_X4_termAtom l dC dI cI cZ cL h0 (Array.size _) n0 a1 a2 a3) (cwV 1 hg (gw_V k_173 k_174 k_175 k_81 g_yX4_termAtom) rfl rfl rfl (by decide +kernel) ⟨(Nat.le_of_ble_eq_true rfl), (Nat.le_of_ble_eq_true rfl)⟩) ⟨hp_bl, va_recv hK hPc (ci := 4) (q0 := 0) rfl rfl, fun U hU hW => hp_ok hU hW hPc hK hDc⟩ rfl rfl hl.1 rfl (lv_room (Nat.le_of_ble_eq_true rfl)) dX4_term_2 ⟨(Nat.le_of_ble_eq_true rfl), (Nat.le_of_ble_eq_true rfl)⟩) hS (fun q _ h => hFc q h) hFc (fun r9 u t H locs ht hvm hw hB hz1 hk1 hS => ?_)
  obtain ⟨hP1, hD1⟩ := hB
  rw [ht] at hP1
  obtain ⟨hP, hD⟩ := va_join (wr := []) (w1 := [(h0, .inr (4, [.ref n0, .ref a1, .ref a2, .ref a3, .int 0, .int 0, .int 0, .int 0, .int 0]))]) hP hD [0] [] rfl rfl (by decide) (by decide) hk1 hFc hP1 hD1
  have hP : va_P (dC, dI) vwCl [(h0, .inr (4, [.ref n0, .ref a1, .ref a2, .ref a3, .int 0, .int 0, .int 0, .int 0, .int 0]))] H := hP
  have hD : va_D A [(h0, .inr (4, [.ref n0, .ref a1, .ref a2, .ref a3, .int 0, .int 0, .int 0, .int 0, .int 0]))] := hD
  refine W.widen (k := 0) (n := 0) (Nat.le_of_ble_eq_true rfl) (Nat.le_of_ble_eq_true rfl) ?_
  obtain rfl : r9 = (-1) := hw
  refine lv_istore_n (lv' := [(2, .int (-1)), (0, .ref h0), (1, .int 0)]) hx hb dX4_term_5 rfl hl (by decide) rfl (fun ls hl => ?_)
  refine lv_iconst (v := 1) hx hb dX4_term_6 (by decide) ?_
  refine lv_istore_n (lv' := [(3, .int 1), (2, .int (-1)), (0, .ref h0), (1, .int 0)]) hx hb dX4_term_7 rfl hl (by decide) rfl (fun ls hl => ?_)
  refine lv_iload_n hx hb dX4_term_8 rfl (lv_at hl 0 rfl) ?_
  refine lv_bipush (v := 60) hx hb dX4_term_9 (by decide) ?_
  refine lv_icmp_gt (tgt := 65) hx hb dX4_term_11 (by decide) (fun c9 => absurd c9 (by decide)) (fun _ => ?_)
  refine lv_iload_n hx hb dX4_term_14 rfl (lv_at hl 1 rfl) ?_
  refine lv_iconst (v := (-1)) hx hb dX4_term_15 (by decide) ?_
  refine lv_icmp_eq (tgt := 65) hx hb dX4_term_16 (by decide) (fun _ => ?_) (fun c9 => absurd (by decide) c9)
  refine lv_iload_n hx hb dX4_term_65 rfl (lv_at hl 1 rfl) ?_
  have hP9 := hP.sub (ws' := [(h0, .inr (4, [.ref n0, .ref a1, .ref a2, .ref a3, .int 0, .int 0, .int 0, .int 0, .int 0]))]) [0] rfl
  have hD9 := hD.sub (ws' := [(h0, .inr (4, [.ref n0, .ref a1, .ref a2, .ref a3, .int 0, .int 0, .int 0, .int 0, .int 0]))]) [0] (by decide) rfl
  refine W.widen (k := 0) (n := 0) (Nat.le_of_ble_eq_true rfl) (Nat.le_of_ble_eq_true rfl) ?_
  exact W.iret (v := (-1)) hx hb hr (fun t ht hW => ⟨⟨(-1), (), rfl, rfl, by rw [ht]; exact hP9, hD9⟩, hS.F ht⟩) hS.2.2 dX4_term_66

set_option maxHeartbeats 4000000 in
set_option maxRecDepth 100000 in
/-- wholeTerm() of an empty text -/
theorem c_X4_wholeTerm (l : Launch) (dC : Nat → ClassId) (dI : Nat → Nat → Nat) (cI cZ cL : ClassId) (h0 : Nat) (sz : Nat) (n0 a1 a2 a3 : Nat) : Met l yX4_wholeTerm (wd yX4_wholeTerm cX4_wholeTerm 2 (some .int)) ({ frames := 3, cells := 0, slots := 0, locals := 66 }) (va_Pc [.ref h0] (hp dC dI cI cZ cL sz [(h0, .inr (4, [.ref n0, .ref a1, .ref a2, .ref a3, .int 0, .int 0, .int 0, .int 0, .int (-1)]))])) (va_Qi (fun (r : Int32) (_ : Unit) => r = -1) (fun (_ : Unit) t => va_P (dC, dI) vwCl [(h0, .inr (4, [.ref n0, .ref a1, .ref a2, .ref a3, .int 0, .int 0, .int 0, .int 0, .int 0]))] t.heap ∧ va_D (va_A [(h0, .inr (4, [.ref n0, .ref a1, .ref a2, .ref a3, .int 0, .int 0, .int 0, .int 0, .int (-1)]))] sz) [(h0, .inr (4, [.ref n0, .ref a1, .ref a2, .ref a3, .int 0, .int 0, .int 0, .int 0, .int 0]))]) (va_A [(h0, .inr (4, [.ref n0, .ref a1, .ref a2, .ref a3, .int 0, .int 0, .int 0, .int 0, .int (-1)]))] sz)) 0 0 (va_A [(h0, .inr (4, [.ref n0, .ref a1, .ref a2, .ref a3, .int 0, .int 0, .int 0, .int 0, .int (-1)]))] sz) := by
  refine Met.ofW (cc := cX4_wholeTerm) (maxL := 2) (ret := (some .int)) (by decide) rfl ?_
  intro p e s m args below meth c s₁ B hml hv
  obtain ⟨rfl, hsz, hP, hK, hD0⟩ := hv
  have hx := B.exec
  have hb := B.bytes
  have hr := B.returns
  have hw9 := atoms_spec (ws := (wd yX4_wholeTerm cX4_wholeTerm 2 (some .int))) B.pre
  have hg := gw_hts hw9
  have hown : s.vm.findClass RX4 = some m.cls := findClass_of_methodNamed B.named
  have hlocks := B.notSynchronized
  subst hsz
  have hD := hD0.self (sz := s.heap.size)
  generalize hAe : va_A [(h0, .inr (4, [.ref n0, .ref a1, .ref a2, .ref a3, .int 0, .int 0, .int 0, .int 0, .int (-1)]))] s.heap.size = A at hD ⊢
  have hA : ∀ q : Nat, s.heap.size ≤ q → A q := fun q h => by rw [← hAe]; exact Or.inr h
  have hS : va_S A s.heap s.heap [] := va_S.rf
  have hl := lv_entry ([.ref h0]) (n := 2) (Nat.le_of_ble_eq_true rfl)
  rw [lg_entry_eq]
  generalize (lg_sl ([.ref h0]) ++ List.replicate (2 - (lg_sl ([.ref h0])).length) Slot.unset).toArray = ls at hl ⊢
  have hl : lv_has ls 2 [(0, .ref h0)] := hl
  refine lv_aload_n hx hb dX4_wholeTerm_0 rfl (lv_at hl 0 rfl) ?_
  refine lv_iconst (v := 0) hx hb dX4_wholeTerm_1 (by decide) ?_
  have hPc := hP.sub (ws' := [(h0, .inr (4, [.ref n0, .ref a1, .ref a2, .ref a3, .int 0, .int 0, .int 0, .int 0, .int (-1)]))]) [0] rfl
  have hDc := hD.sub (ws' := [(h0, .inr (4, [.ref n0, .ref a1, .ref a2, .ref a3, .int 0, .int 0, .int 0, .int 0, .int (-1)]))]) [0] (by decide) rfl
  have hFc := va_free (wc := [(h0, .inr (4, [.ref n0, .ref a1, .ref a2, .ref a3, .int 0, .int 0, .int 0, .int 0, .int (-1)]))]) hD hS hA [0] rfl
  refine va_calli (va_runV (As := [.int 0]) (rest := []) ⟨hx, hb, hml, hown, hg⟩ (c_X4_term l dC dI cI cZ cL h0 (Array.size _) n0 a1 a2 a3) (cwV 1 hg (gw_V k_176 k_177 k_178 k_81 g_yX4_term) rfl rfl rfl (by decide +kernel) ⟨(Nat.le_of_ble_eq_true rfl), (Nat.le_of_ble_eq_true rfl)⟩) ⟨hp_bl, va_recv hK hPc (ci := 4) (q0 := 0) rfl rfl, fun U hU hW => hp_ok hU hW hPc hK hDc⟩ rfl rfl hl.1 rfl (lv_room (Nat.le_of_ble_eq_true rfl)) dX4_wholeTerm_2 ⟨(Nat.le_of_ble_eq_true rfl), (Nat.le_of_ble_eq_true rfl)⟩) hS (fun q _ h => hFc q h) hFc (fun r9 u t H locs ht hvm hw hB hz1 hk1 hS => ?_)
  obtain ⟨hP1, hD1⟩ := hB
  rw [ht] at hP1
  obtain ⟨hP, hD⟩ := va_join (wr := []) (w1 := [(h0, .inr (4, [.ref n0, .ref a1, .ref a2, .ref a3, .int 0, .int 0, .int 0, .int 0, .int 0]))]) hP hD [0] [] rfl rfl (by decide) (by decide) hk1 hFc hP1 hD1
  have hP : va_P (dC, dI) vwCl [(h0, .inr (4, [.ref n0, .ref a1, .ref a2, .ref a3, .int 0, .int 0, .int 0, .int 0, .int 0]))] H := hP
  have hD : va_D A [(h0, .inr (4, [.ref n0, .ref a1, .ref a2, .ref a3, .int 0, .int 0, .int 0, .int 0, .int 0]))] := hD
  refine W.widen (k := 0) (n := 0) (Nat.le_of_ble_eq_true rfl) (Nat.le_of_ble_eq_true rfl) ?_
  obtain rfl : r9 = (-1) := hw
  refine lv_istore_n (lv' := [(1, .int (-1)), (0, .ref h0)]) hx hb dX4_wholeTerm_5 rfl hl (by decide) rfl (fun ls hl => ?_)
  refine lv_iload_n hx hb dX4_wholeTerm_6 rfl (lv_at hl 0 rfl) ?_
  refine lv_iconst (v := (-1)) hx hb dX4_wholeTerm_7 (by decide) ?_
  refine lv_icmp_eq (tgt := 26) hx hb dX4_wholeTerm_8 (by decide) (fun _ => ?_) (fun c9 => absurd (by decide) c9)
  refine lv_iload_n hx hb dX4_wholeTerm_26 rfl (lv_at hl 0 rfl) ?_
  have hP9 := hP.sub (ws' := [(h0, .inr (4, [.ref n0, .ref a1, .ref a2, .ref a3, .int 0, .int 0, .int 0, .int 0, .int 0]))]) [0] rfl
  have hD9 := hD.sub (ws' := [(h0, .inr (4, [.ref n0, .ref a1, .ref a2, .ref a3, .int 0, .int 0, .int 0, .int 0, .int 0]))]) [0] (by decide) rfl
  refine W.widen (k := 0) (n := 0) (Nat.le_of_ble_eq_true rfl) (Nat.le_of_ble_eq_true rfl) ?_
  exact W.iret (v := (-1)) hx hb hr (fun t ht hW => ⟨⟨(-1), (), rfl, rfl, by rw [ht]; exact hP9, hD9⟩, hS.F ht⟩) hS.2.2 dX4_wholeTerm_27

set_option maxHeartbeats 4000000 in
set_option maxRecDepth 100000 in
/-- wrongAt() -/
theorem c_X4_wrongAt (l : Launch) (dC : Nat → ClassId) (dI : Nat → Nat → Nat) (cI cZ cL : ClassId) (h0 : Nat) (sz : Nat) (n0 a1 a2 a3 : Nat) : Met l yX4_wrongAt (wd yX4_wrongAt cX4_wrongAt 1 (some .int)) ({ frames := 0, cells := 0, slots := 0, locals := 0 }) (va_Pc [.ref h0] (hp dC dI cI cZ cL sz [(h0, .inr (4, [.ref n0, .ref a1, .ref a2, .ref a3, .int 0, .int 0, .int 0, .int 0, .int 0]))])) (va_Qi (fun (r : Int32) (_ : Unit) => r = 0) (fun (_ : Unit) t => va_P (dC, dI) vwCl [(h0, .inr (4, [.ref n0, .ref a1, .ref a2, .ref a3, .int 0, .int 0, .int 0, .int 0, .int 0]))] t.heap ∧ va_D (va_A [(h0, .inr (4, [.ref n0, .ref a1, .ref a2, .ref a3, .int 0, .int 0, .int 0, .int 0, .int 0]))] sz) [(h0, .inr (4, [.ref n0, .ref a1, .ref a2, .ref a3, .int 0, .int 0, .int 0, .int 0, .int 0]))]) (va_A [(h0, .inr (4, [.ref n0, .ref a1, .ref a2, .ref a3, .int 0, .int 0, .int 0, .int 0, .int 0]))] sz)) 0 0 (va_A [(h0, .inr (4, [.ref n0, .ref a1, .ref a2, .ref a3, .int 0, .int 0, .int 0, .int 0, .int 0]))] sz) := by
  refine Met.ofW (cc := cX4_wrongAt) (maxL := 1) (ret := (some .int)) (by decide) rfl ?_
  intro p e s m args below meth c s₁ B hml hv
  obtain ⟨rfl, hsz, hP, hK, hD0⟩ := hv
  have hx := B.exec
  have hb := B.bytes
  have hr := B.returns
  have hw9 := atoms_spec (ws := (wd yX4_wrongAt cX4_wrongAt 1 (some .int))) B.pre
  have hg := gw_hts hw9
  have hown : s.vm.findClass RX4 = some m.cls := findClass_of_methodNamed B.named
  have hlocks := B.notSynchronized
  subst hsz
  have hD := hD0.self (sz := s.heap.size)
  generalize hAe : va_A [(h0, .inr (4, [.ref n0, .ref a1, .ref a2, .ref a3, .int 0, .int 0, .int 0, .int 0, .int 0]))] s.heap.size = A at hD ⊢
  have hA : ∀ q : Nat, s.heap.size ≤ q → A q := fun q h => by rw [← hAe]; exact Or.inr h
  have hS : va_S A s.heap s.heap [] := va_S.rf
  have hl := lv_entry ([.ref h0]) (n := 1) (Nat.le_of_ble_eq_true rfl)
  rw [lg_entry_eq]
  generalize (lg_sl ([.ref h0]) ++ List.replicate (1 - (lg_sl ([.ref h0])).length) Slot.unset).toArray = ls at hl ⊢
  have hl : lv_has ls 1 [(0, .ref h0)] := hl
  refine lv_aload_n hx hb dX4_wrongAt_0 rfl (lv_at hl 0 rfl) ?_
  refine va_get (D := (dC, dI)) (ci := 4) (v := .int 0) (C := RX4) (T := TX4) (N := 9) hx hb hg i_X4 hown hK hP 0 rfl rfl 8 (by decide) (hg _ k_67) (fun _ h9 => h9) rfl dX4_wrongAt_1 ?_
  have hP9 := hP.sub (ws' := [(h0, .inr (4, [.ref n0, .ref a1, .ref a2, .ref a3, .int 0, .int 0, .int 0, .int 0, .int 0]))]) [0] rfl
  have hD9 := hD.sub (ws' := [(h0, .inr (4, [.ref n0, .ref a1, .ref a2, .ref a3, .int 0, .int 0, .int 0, .int 0, .int 0]))]) [0] (by decide) rfl
  refine W.widen (k := 0) (n := 0) (Nat.le_of_ble_eq_true rfl) (Nat.le_of_ble_eq_true rfl) ?_
  exact W.iret (v := 0) hx hb hr (fun t ht hW => ⟨⟨0, (), rfl, rfl, by rw [ht]; exact hP9, hD9⟩, hS.F ht⟩) hS.2.2 dX4_wrongAt_4

set_option maxHeartbeats 4000000 in
set_option maxRecDepth 100000 in
/-- typeAtom(0) of an empty text -/
theorem c_X4_typeAtom (l : Launch) (dC : Nat → ClassId) (dI : Nat → Nat → Nat) (cI cZ cL : ClassId) (h0 : Nat) (sz : Nat) (n0 a1 a2 a3 : Nat) : Met l yX4_typeAtom (wd yX4_typeAtom cX4_typeAtom 3 (some .int)) ({ frames := 1, cells := 0, slots := 0, locals := 20 }) (va_Pc [.ref h0, .int 0] (hp dC dI cI cZ cL sz [(h0, .inr (4, [.ref n0, .ref a1, .ref a2, .ref a3, .int 0, .int 0, .int 0, .int 0, .int (-1)]))])) (va_Qi (fun (r : Int32) (_ : Unit) => r = -1) (fun (_ : Unit) t => va_P (dC, dI) vwCl [(h0, .inr (4, [.ref n0, .ref a1, .ref a2, .ref a3, .int 0, .int 0, .int 0, .int 0, .int 0]))] t.heap ∧ va_D (va_A [(h0, .inr (4, [.ref n0, .ref a1, .ref a2, .ref a3, .int 0, .int 0, .int 0, .int 0, .int (-1)]))] sz) [(h0, .inr (4, [.ref n0, .ref a1, .ref a2, .ref a3, .int 0, .int 0, .int 0, .int 0, .int 0]))]) (va_A [(h0, .inr (4, [.ref n0, .ref a1, .ref a2, .ref a3, .int 0, .int 0, .int 0, .int 0, .int (-1)]))] sz)) 0 0 (va_A [(h0, .inr (4, [.ref n0, .ref a1, .ref a2, .ref a3, .int 0, .int 0, .int 0, .int 0, .int (-1)]))] sz) := by
  refine Met.ofW (cc := cX4_typeAtom) (maxL := 3) (ret := (some .int)) (by decide) rfl ?_
  intro p e s m args below meth c s₁ B hml hv
  obtain ⟨rfl, hsz, hP, hK, hD0⟩ := hv
  have hx := B.exec
  have hb := B.bytes
  have hr := B.returns
  have hw9 := atoms_spec (ws := (wd yX4_typeAtom cX4_typeAtom 3 (some .int))) B.pre
  have hg := gw_hts hw9
  have hown : s.vm.findClass RX4 = some m.cls := findClass_of_methodNamed B.named
  have hlocks := B.notSynchronized
  subst hsz
  have hD := hD0.self (sz := s.heap.size)
  generalize hAe : va_A [(h0, .inr (4, [.ref n0, .ref a1, .ref a2, .ref a3, .int 0, .int 0, .int 0, .int 0, .int (-1)]))] s.heap.size = A at hD ⊢
  have hA : ∀ q : Nat, s.heap.size ≤ q → A q := fun q h => by rw [← hAe]; exact Or.inr h
  have hS : va_S A s.heap s.heap [] := va_S.rf
  have hl := lv_entry ([.ref h0, .int 0]) (n := 3) (Nat.le_of_ble_eq_true rfl)
  rw [lg_entry_eq]
  generalize (lg_sl ([.ref h0, .int 0]) ++ List.replicate (3 - (lg_sl ([.ref h0, .int 0])).length) Slot.unset).toArray = ls at hl ⊢
  have hl : lv_has ls 3 [(0, .ref h0), (1, .int 0)] := hl
  refine lv_aload_n hx hb dX4_typeAtom_0 rfl (lv_at hl 0 rfl) ?_
  have hPc := hP.sub (ws' := [(h0, .inr (4, [.ref n0, .ref a1, .ref a2, .ref a3, .int 0, .int 0, .int 0, .int 0, .int (-1)]))]) [0] rfl
  have hDc := hD.sub (ws' := [(h0, .inr (4, [.ref n0, .ref a1, .ref a2, .ref a3, .int 0, .int 0, .int 0, .int 0, .int (-1)]))]) [0] (by decide) rfl
  have hFc := va_free (wc := [(h0, .inr (4, [.ref n0, .ref a1, .ref a2, .ref a3, .int 0, .int 0, .int 0, .int 0, .int (-1)]))]) hD hS hA [0] rfl
  refine va_calli (va_runV (As := []) (rest := []) ⟨hx, hb, hml, hown, hg⟩ (c_X4_peek l dC dI cI cZ cL h0 (Array.size _) n0 a1 a2 a3) (cwV 0 hg (gw_V k_165 k_166 k_167 k_81 g_yX4_peek) rfl rfl rfl (by decide +kernel) ⟨(Nat.le_of_ble_eq_true rfl), (Nat.le_of_ble_eq_true rfl)⟩) ⟨hp_bl, va_recv hK hPc (ci := 4) (q0 := 0) rfl rfl, fun U hU hW => hp_ok hU hW hPc hK hDc⟩ rfl rfl hl.1 rfl (lv_room (Nat.le_of_ble_eq_true rfl)) dX4_typeAtom_1 ⟨(Nat.le_of_ble_eq_true rfl), (Nat.le_of_ble_eq_true rfl)⟩) hS (fun q _ h => hFc q h) hFc (fun r9 u t H locs ht hvm hw hB hz1 hk1 hS => ?_)
  obtain ⟨hP1, hD1⟩ := hB
  rw [ht] at hP1
  obtain ⟨hP, hD⟩ := va_join (wr := []) (w1 := [(h0, .inr (4, [.ref n0, .ref a1, .ref a2, .ref a3, .int 0, .int 0, .int 0, .int 0, .int (-1)]))]) hP hD [0] [] rfl rfl (by decide) (by decide) hk1 hFc hP1 hD1
  have hP : va_P (dC, dI) vwCl [(h0, .inr (4, [.ref n0, .ref a1, .ref a2, .ref a3, .int 0, .int 0, .int 0, .int 0, .int (-1)]))] H := hP
  have hD : va_D A [(h0, .inr (4, [.ref n0, .ref a1, .ref a2, .ref a3, .int 0, .int 0, .int 0, .int 0, .int (-1)]))] := hD
  refine W.widen (k := 0) (n := 0) (Nat.le_of_ble_eq_true rfl) (Nat.le_of_ble_eq_true rfl) ?_
  obtain rfl : r9 = (-1) := hw
  refine lv_istore_n (lv' := [(2, .int (-1)), (0, .ref h0), (1, .int 0)]) hx hb dX4_typeAtom_4 rfl hl (by decide) rfl (fun ls hl => ?_)
  refine lv_iload_n hx hb dX4_typeAtom_5 rfl (lv_at hl 2 rfl) ?_
  refine lv_bipush (v := 40) hx hb dX4_typeAtom_6 (by decide) ?_
  refine lv_icmp_le (tgt := 16) hx hb dX4_typeAtom_8 (by decide) (fun _ => ?_) (fun c9 => absurd (by decide) c9)
  refine lv_iload_n hx hb dX4_typeAtom_16 rfl (lv_at hl 0 rfl) ?_
  refine lv_bipush (v := 49) hx hb dX4_typeAtom_17 (by decide) ?_
  refine lv_icmp_ne (tgt := 34) hx hb dX4_typeAtom_19 (by decide) (fun _ => ?_) (fun c9 => absurd c9 (by decide))
  refine lv_iload_n hx hb dX4_typeAtom_34 rfl (lv_at hl 0 rfl) ?_
  refine lv_bipush (v := 33) hx hb dX4_typeAtom_35 (by decide) ?_
  refine lv_icmp_ne (tgt := 46) hx hb dX4_typeAtom_37 (by decide) (fun _ => ?_) (fun c9 => absurd c9 (by decide))
  refine lv_iload_n hx hb dX4_typeAtom_46 rfl (lv_at hl 0 rfl) ?_
  refine lv_bipush (v := 40) hx hb dX4_typeAtom_47 (by decide) ?_
  refine lv_icmp_ne (tgt := 58) hx hb dX4_typeAtom_49 (by decide) (fun _ => ?_) (fun c9 => absurd c9 (by decide))
  refine lv_iload_n hx hb dX4_typeAtom_58 rfl (lv_at hl 0 rfl) ?_
  have hPc := hP.sub (ws' := []) [] rfl
  have hDc := hD.sub (ws' := []) [] (by decide) rfl
  have hFc := va_free (wc := []) hD hS hA [] rfl
  refine va_calli (va_runS (As := [.int (-1)]) (rest := []) ⟨hx, hb, hml, hown, hg⟩ (c_X4_isLetter l dC dI cI cZ cL  (Array.size _)) (va_cwS 1 hg (gw_S k_168 k_169 k_81 g_yX4_isLetter) rfl rfl rfl (by decide +kernel) ⟨(Nat.le_of_ble_eq_true rfl), (Nat.le_of_ble_eq_true rfl)⟩) ⟨hp_bl, fun U hU hW => hp_ok hU hW hPc hK hDc⟩ rfl rfl hl.1 rfl (lv_room (Nat.le_of_ble_eq_true rfl)) dX4_typeAtom_59 ⟨(Nat.le_of_ble_eq_true rfl), (Nat.le_of_ble_eq_true rfl)⟩) hS (fun q _ h => hFc q h) hFc (fun r9 u t H locs ht hvm hw hB hz1 hk1 hS => ?_)
  obtain ⟨hP1, hD1⟩ := hB
  rw [ht] at hP1
  obtain ⟨hP, hD⟩ := va_join (wr := [(h0, .inr (4, [.ref n0, .ref a1, .ref a2, .ref a3, .int 0, .int 0, .int 0, .int 0, .int (-1)]))]) (w1 := []) hP hD [] [0] rfl rfl (by decide) (by decide) hk1 hFc hP1 hD1
  have hP : va_P (dC, dI) vwCl [(h0, .inr (4, [.ref n0, .ref a1, .ref a2, .ref a3, .int 0, .int 0, .int 0, .int 0, .int (-1)]))] H := hP
  have hD : va_D A [(h0, .inr (4, [.ref n0, .ref a1, .ref a2, .ref a3, .int 0, .int 0, .int 0, .int 0, .int (-1)]))] := hD
  refine W.widen (k := 0) (n := 0) (Nat.le_of_ble_eq_true rfl) (Nat.le_of_ble_eq_true rfl) ?_
  obtain rfl : r9 = 0 := hw
  refine lv_if_eq (tgt := 73) hx hb dX4_typeAtom_62 (by decide) (fun _ => ?_) (fun c9 => absurd (by decide) c9)
  refine lv_aload_n hx hb dX4_typeAtom_73 rfl (lv_at hl 1 rfl) ?_
  have hPc := hP.sub (ws' := [(h0, .inr (4, [.ref n0, .ref a1, .ref a2, .ref a3, .int 0, .int 0, .int 0, .int 0, .int (-1)]))]) [0] rfl
  have hDc := hD.sub (ws' := [(h0, .inr (4, [.ref n0, .ref a1, .ref a2, .ref a3, .int 0, .int 0, .int 0, .int 0, .int (-1)]))]) [0] (by decide) rfl
  have hFc := va_free (wc := [(h0, .inr (4, [.ref n0, .ref a1, .ref a2, .ref a3, .int 0, .int 0, .int 0, .int 0, .int (-1)]))]) hD hS hA [0] rfl
  refine va_calli (va_runV (As := []) (rest := []) ⟨hx, hb, hml, hown, hg⟩ (c_X4_refuse l dC dI cI cZ cL h0 (Array.size _) n0 a1 a2 a3) (cwV 0 hg (gw_V k_170 k_171 k_172 k_81 g_yX4_refuse) rfl rfl rfl (by decide +kernel) ⟨(Nat.le_of_ble_eq_true rfl), (Nat.le_of_ble_eq_true rfl)⟩) ⟨hp_bl, va_recv hK hPc (ci := 4) (q0 := 0) rfl rfl, fun U hU hW => hp_ok hU hW hPc hK hDc⟩ rfl rfl hl.1 rfl (lv_room (Nat.le_of_ble_eq_true rfl)) dX4_typeAtom_74 ⟨(Nat.le_of_ble_eq_true rfl), (Nat.le_of_ble_eq_true rfl)⟩) hS (fun q _ h => hFc q h) hFc (fun r9 u t H locs ht hvm hw hB hz1 hk1 hS => ?_)
  obtain ⟨hP1, hD1⟩ := hB
  rw [ht] at hP1
  obtain ⟨hP, hD⟩ := va_join (wr := []) (w1 := [(h0, .inr (4, [.ref n0, .ref a1, .ref a2, .ref a3, .int 0, .int 0, .int 0, .int 0, .int 0]))]) hP hD [0] [] rfl rfl (by decide) (by decide) hk1 hFc hP1 hD1
  have hP : va_P (dC, dI) vwCl [(h0, .inr (4, [.ref n0, .ref a1, .ref a2, .ref a3, .int 0, .int 0, .int 0, .int 0, .int 0]))] H := hP
  have hD : va_D A [(h0, .inr (4, [.ref n0, .ref a1, .ref a2, .ref a3, .int 0, .int 0, .int 0, .int 0, .int 0]))] := hD
  refine W.widen (k := 0) (n := 0) (Nat.le_of_ble_eq_true rfl) (Nat.le_of_ble_eq_true rfl) ?_
  obtain rfl : r9 = (-1) := hw
  have hP9 := hP.sub (ws' := [(h0, .inr (4, [.ref n0, .ref a1, .ref a2, .ref a3, .int 0, .int 0, .int 0, .int 0, .int 0]))]) [0] rfl
  have hD9 := hD.sub (ws' := [(h0, .inr (4, [.ref n0, .ref a1, .ref a2, .ref a3, .int 0, .int 0, .int 0, .int 0, .int 0]))]) [0] (by decide) rfl
  refine W.widen (k := 0) (n := 0) (Nat.le_of_ble_eq_true rfl) (Nat.le_of_ble_eq_true rfl) ?_
  exact W.iret (v := (-1)) hx hb hr (fun t ht hW => ⟨⟨(-1), (), rfl, rfl, by rw [ht]; exact hP9, hD9⟩, hS.F ht⟩) hS.2.2 dX4_typeAtom_77

set_option maxHeartbeats 4000000 in
set_option maxRecDepth 100000 in
/-- type(0) of an empty text -/
theorem c_X4_type (l : Launch) (dC : Nat → ClassId) (dI : Nat → Nat → Nat) (cI cZ cL : ClassId) (h0 : Nat) (sz : Nat) (n0 a1 a2 a3 : Nat) : Met l yX4_type (wd yX4_type cX4_type 3 (some .int)) ({ frames := 2, cells := 0, slots := 0, locals := 42 }) (va_Pc [.ref h0, .int 0] (hp dC dI cI cZ cL sz [(h0, .inr (4, [.ref n0, .ref a1, .ref a2, .ref a3, .int 0, .int 0, .int 0, .int 0, .int (-1)]))])) (va_Qi (fun (r : Int32) (_ : Unit) => r = -1) (fun (_ : Unit) t => va_P (dC, dI) vwCl [(h0, .inr (4, [.ref n0, .ref a1, .ref a2, .ref a3, .int 0, .int 0, .int 0, .int 0, .int 0]))] t.heap ∧ va_D (va_A [(h0, .inr (4, [.ref n0, .ref a1, .ref a2, .ref a3, .int 0, .int 0, .int 0, .int 0, .int (-1)]))] sz) [(h0, .inr (4, [.ref n0, .ref a1, .ref a2, .ref a3, .int 0, .int 0, .int 0, .int 0, .int 0]))]) (va_A [(h0, .inr (4, [.ref n0, .ref a1, .ref a2, .ref a3, .int 0, .int 0, .int 0, .int 0, .int (-1)]))] sz)) 0 0 (va_A [(h0, .inr (4, [.ref n0, .ref a1, .ref a2, .ref a3, .int 0, .int 0, .int 0, .int 0, .int (-1)]))] sz) := by
  refine Met.ofW (cc := cX4_type) (maxL := 3) (ret := (some .int)) (by decide) rfl ?_
  intro p e s m args below meth c s₁ B hml hv
  obtain ⟨rfl, hsz, hP, hK, hD0⟩ := hv
  have hx := B.exec
  have hb := B.bytes
  have hr := B.returns
  have hw9 := atoms_spec (ws := (wd yX4_type cX4_type 3 (some .int))) B.pre
  have hg := gw_hts hw9
  have hown : s.vm.findClass RX4 = some m.cls := findClass_of_methodNamed B.named
  have hlocks := B.notSynchronized
  subst hsz
  have hD := hD0.self (sz := s.heap.size)
  generalize hAe : va_A [(h0, .inr (4, [.ref n0, .ref a1, .ref a2, .ref a3, .int 0, .int 0, .int 0, .int 0, .int (-1)]))] s.heap.size = A at hD ⊢
  have hA : ∀ q : Nat, s.heap.size ≤ q → A q := fun q h => by rw [← hAe]; exact Or.inr h
  have hS : va_S A s.heap s.heap [] := va_S.rf
  have hl := lv_entry ([.ref h0, .int 0]) (n := 3) (Nat.le_of_ble_eq_true rfl)
  rw [lg_entry_eq]
  generalize (lg_sl ([.ref h0, .int 0]) ++ List.replicate (3 - (lg_sl ([.ref h0, .int 0])).length) Slot.unset).toArray = ls at hl ⊢
  have hl : lv_has ls 3 [(0, .ref h0), (1, .int 0)] := hl
  refine lv_aload_n hx hb dX4_type_0 rfl (lv_at hl 0 rfl) ?_
  refine lv_iload_n hx hb dX4_type_1 rfl (lv_at hl 1 rfl) ?_
  have hPc := hP.sub (ws' := [(h0, .inr (4, [.ref n0, .ref a1, .ref a2, .ref a3, .int 0, .int 0, .int 0, .int 0, .int (-1)]))]) [0] rfl
  have hDc := hD.sub (ws' := [(h0, .inr (4, [.ref n0, .ref a1, .ref a2, .ref a3, .int 0, .int 0, .int 0, .int 0, .int (-1)]))]) [0] (by decide) rfl
  have hFc := va_free (wc := [(h0, .inr (4, [.ref n0, .ref a1, .ref a2, .ref a3, .int 0, .int 0, .int 0, .int 0, .int (-1)]))]) hD hS hA [0] rfl
  refine va_calli (va_runV (As := [.int 0]) (rest := []) ⟨hx, hb, hml, hown, hg⟩ (c_X4_typeAtom l dC dI cI cZ cL h0 (Array.size _) n0 a1 a2 a3) (cwV 1 hg (gw_V k_179 k_180 k_181 k_81 g_yX4_typeAtom) rfl rfl rfl (by decide +kernel) ⟨(Nat.le_of_ble_eq_true rfl), (Nat.le_of_ble_eq_true rfl)⟩) ⟨hp_bl, va_recv hK hPc (ci := 4) (q0 := 0) rfl rfl, fun U hU hW => hp_ok hU hW hPc hK hDc⟩ rfl rfl hl.1 rfl (lv_room (Nat.le_of_ble_eq_true rfl)) dX4_type_2 ⟨(Nat.le_of_ble_eq_true rfl), (Nat.le_of_ble_eq_true rfl)⟩) hS (fun q _ h => hFc q h) hFc (fun r9 u t H locs ht hvm hw hB hz1 hk1 hS => ?_)
  obtain ⟨hP1, hD1⟩ := hB
  rw [ht] at hP1
  obtain ⟨hP, hD⟩ := va_join (wr := []) (w1 := [(h0, .inr (4, [.ref n0, .ref a1, .ref a2, .ref a3, .int 0, .int 0, .int 0, .int 0, .int 0]))]) hP hD [0] [] rfl rfl (by decide) (by decide) hk1 hFc hP1 hD1
  have hP : va_P (dC, dI) vwCl [(h0, .inr (4, [.ref n0, .ref a1, .ref a2, .ref a3, .int 0, .int 0, .int 0, .int 0, .int 0]))] H := hP
  have hD : va_D A [(h0, .inr (4, [.ref n0, .ref a1, .ref a2, .ref a3, .int 0, .int 0, .int 0, .int 0, .int 0]))] := hD
  refine W.widen (k := 0) (n := 0) (Nat.le_of_ble_eq_true rfl) (Nat.le_of_ble_eq_true rfl) ?_
  obtain rfl : r9 = (-1) := hw
  refine lv_istore_n (lv' := [(2, .int (-1)), (0, .ref h0), (1, .int 0)]) hx hb dX4_type_5 rfl hl (by decide) rfl (fun ls hl => ?_)
  refine lv_iload_n hx hb dX4_type_6 rfl (lv_at hl 0 rfl) ?_
  refine lv_iconst (v := (-1)) hx hb dX4_type_7 (by decide) ?_
  refine lv_icmp_eq (tgt := 20) hx hb dX4_type_8 (by decide) (fun _ => ?_) (fun c9 => absurd (by decide) c9)
  refine lv_iload_n hx hb dX4_type_20 rfl (lv_at hl 0 rfl) ?_
  have hP9 := hP.sub (ws' := [(h0, .inr (4, [.ref n0, .ref a1, .ref a2, .ref a3, .int 0, .int 0, .int 0, .int 0, .int 0]))]) [0] rfl
  have hD9 := hD.sub (ws' := [(h0, .inr (4, [.ref n0, .ref a1, .ref a2, .ref a3, .int 0, .int 0, .int 0, .int 0, .int 0]))]) [0] (by decide) rfl
  refine W.widen (k := 0) (n := 0) (Nat.le_of_ble_eq_true rfl) (Nat.le_of_ble_eq_true rfl) ?_
  exact W.iret (v := (-1)) hx hb hr (fun t ht hW => ⟨⟨(-1), (), rfl, rfl, by rw [ht]; exact hP9, hD9⟩, hS.F ht⟩) hS.2.2 dX4_type_21

set_option maxHeartbeats 4000000 in
set_option maxRecDepth 100000 in
/-- typeBeforeSign() of an empty text -/
theorem c_X4_typeBeforeSign (l : Launch) (dC : Nat → ClassId) (dI : Nat → Nat → Nat) (cI cZ cL : ClassId) (h0 : Nat) (sz : Nat) (n0 a1 a2 a3 : Nat) : Met l yX4_typeBeforeSign (wd yX4_typeBeforeSign cX4_typeBeforeSign 2 (some .int)) ({ frames := 3, cells := 0, slots := 0, locals := 64 }) (va_Pc [.ref h0] (hp dC dI cI cZ cL sz [(h0, .inr (4, [.ref n0, .ref a1, .ref a2, .ref a3, .int 0, .int 0, .int 0, .int 0, .int (-1)]))])) (va_Qi (fun (r : Int32) (_ : Unit) => r = -1) (fun (_ : Unit) t => va_P (dC, dI) vwCl [(h0, .inr (4, [.ref n0, .ref a1, .ref a2, .ref a3, .int 0, .int 0, .int 0, .int 0, .int 0]))] t.heap ∧ va_D (va_A [(h0, .inr (4, [.ref n0, .ref a1, .ref a2, .ref a3, .int 0, .int 0, .int 0, .int 0, .int (-1)]))] sz) [(h0, .inr (4, [.ref n0, .ref a1, .ref a2, .ref a3, .int 0, .int 0, .int 0, .int 0, .int 0]))]) (va_A [(h0, .inr (4, [.ref n0, .ref a1, .ref a2, .ref a3, .int 0, .int 0, .int 0, .int 0, .int (-1)]))] sz)) 0 0 (va_A [(h0, .inr (4, [.ref n0, .ref a1, .ref a2, .ref a3, .int 0, .int 0, .int 0, .int 0, .int (-1)]))] sz) := by
  refine Met.ofW (cc := cX4_typeBeforeSign) (maxL := 2) (ret := (some .int)) (by decide) rfl ?_
  intro p e s m args below meth c s₁ B hml hv
  obtain ⟨rfl, hsz, hP, hK, hD0⟩ := hv
  have hx := B.exec
  have hb := B.bytes
  have hr := B.returns
  have hw9 := atoms_spec (ws := (wd yX4_typeBeforeSign cX4_typeBeforeSign 2 (some .int))) B.pre
  have hg := gw_hts hw9
  have hown : s.vm.findClass RX4 = some m.cls := findClass_of_methodNamed B.named
  have hlocks := B.notSynchronized
  subst hsz
  have hD := hD0.self (sz := s.heap.size)
  generalize hAe : va_A [(h0, .inr (4, [.ref n0, .ref a1, .ref a2, .ref a3, .int 0, .int 0, .int 0, .int 0, .int (-1)]))] s.heap.size = A at hD ⊢
  have hA : ∀ q : Nat, s.heap.size ≤ q → A q := fun q h => by rw [← hAe]; exact Or.inr h
  have hS : va_S A s.heap s.heap [] := va_S.rf
  have hl := lv_entry ([.ref h0]) (n := 2) (Nat.le_of_ble_eq_true rfl)
  rw [lg_entry_eq]
  generalize (lg_sl ([.ref h0]) ++ List.replicate (2 - (lg_sl ([.ref h0])).length) Slot.unset).toArray = ls at hl ⊢
  have hl : lv_has ls 2 [(0, .ref h0)] := hl
  refine lv_aload_n hx hb dX4_typeBeforeSign_0 rfl (lv_at hl 0 rfl) ?_
  refine lv_iconst (v := 0) hx hb dX4_typeBeforeSign_1 (by decide) ?_
  have hPc := hP.sub (ws' := [(h0, .inr (4, [.ref n0, .ref a1, .ref a2, .ref a3, .int 0, .int 0, .int 0, .int 0, .int (-1)]))]) [0] rfl
  have hDc := hD.sub (ws' := [(h0, .inr (4, [.ref n0, .ref a1, .ref a2, .ref a3, .int 0, .int 0, .int 0, .int 0, .int (-1)]))]) [0] (by decide) rfl
  have hFc := va_free (wc := [(h0, .inr (4, [.ref n0, .ref a1, .ref a2, .ref a3, .int 0, .int 0, .int 0, .int 0, .int (-1)]))]) hD hS hA [0] rfl
  refine va_calli (va_runV (As := [.int 0]) (rest := []) ⟨hx, hb, hml, hown, hg⟩ (c_X4_type l dC dI cI cZ cL h0 (Array.size _) n0 a1 a2 a3) (cwV 1 hg (gw_V k_182 k_183 k_184 k_81 g_yX4_type) rfl rfl rfl (by decide +kernel) ⟨(Nat.le_of_ble_eq_true rfl), (Nat.le_of_ble_eq_true rfl)⟩) ⟨hp_bl, va_recv hK hPc (ci := 4) (q0 := 0) rfl rfl, fun U hU hW => hp_ok hU hW hPc hK hDc⟩ rfl rfl hl.1 rfl (lv_room (Nat.le_of_ble_eq_true rfl)) dX4_typeBeforeSign_2 ⟨(Nat.le_of_ble_eq_true rfl), (Nat.le_of_ble_eq_true rfl)⟩) hS (fun q _ h => hFc q h) hFc (fun r9 u t H locs ht hvm hw hB hz1 hk1 hS => ?_)
  obtain ⟨hP1, hD1⟩ := hB
  rw [ht] at hP1
  obtain ⟨hP, hD⟩ := va_join (wr := []) (w1 := [(h0, .inr (4, [.ref n0, .ref a1, .ref a2, .ref a3, .int 0, .int 0, .int 0, .int 0, .int 0]))]) hP hD [0] [] rfl rfl (by decide) (by decide) hk1 hFc hP1 hD1
  have hP : va_P (dC, dI) vwCl [(h0, .inr (4, [.ref n0, .ref a1, .ref a2, .ref a3, .int 0, .int 0, .int 0, .int 0, .int 0]))] H := hP
  have hD : va_D A [(h0, .inr (4, [.ref n0, .ref a1, .ref a2, .ref a3, .int 0, .int 0, .int 0, .int 0, .int 0]))] := hD
  refine W.widen (k := 0) (n := 0) (Nat.le_of_ble_eq_true rfl) (Nat.le_of_ble_eq_true rfl) ?_
  obtain rfl : r9 = (-1) := hw
  refine lv_istore_n (lv' := [(1, .int (-1)), (0, .ref h0)]) hx hb dX4_typeBeforeSign_5 rfl hl (by decide) rfl (fun ls hl => ?_)
  refine lv_iload_n hx hb dX4_typeBeforeSign_6 rfl (lv_at hl 0 rfl) ?_
  refine lv_iconst (v := (-1)) hx hb dX4_typeBeforeSign_7 (by decide) ?_
  refine lv_icmp_ne (tgt := 13) hx hb dX4_typeBeforeSign_8 (by decide) (fun c9 => absurd c9 (by decide)) (fun _ => ?_)
  refine lv_iconst (v := (-1)) hx hb dX4_typeBeforeSign_11 (by decide) ?_
  have hP9 := hP.sub (ws' := [(h0, .inr (4, [.ref n0, .ref a1, .ref a2, .ref a3, .int 0, .int 0, .int 0, .int 0, .int 0]))]) [0] rfl
  have hD9 := hD.sub (ws' := [(h0, .inr (4, [.ref n0, .ref a1, .ref a2, .ref a3, .int 0, .int 0, .int 0, .int 0, .int 0]))]) [0] (by decide) rfl
  refine W.widen (k := 0) (n := 0) (Nat.le_of_ble_eq_true rfl) (Nat.le_of_ble_eq_true rfl) ?_
  exact W.iret (v := (-1)) hx hb hr (fun t ht hW => ⟨⟨(-1), (), rfl, rfl, by rw [ht]; exact hP9, hD9⟩, hS.F ht⟩) hS.2.2 dX4_typeBeforeSign_12

set_option maxHeartbeats 4000000 in
set_option maxRecDepth 100000 in
/-- typeBehindSign() behind a refusal -/
theorem c_X4_typeBehindSign (l : Launch) (dC : Nat → ClassId) (dI : Nat → Nat → Nat) (cI cZ cL : ClassId) (h0 : Nat) (sz : Nat) (n0 a1 a2 a3 : Nat) : Met l yX4_typeBehindSign (wd yX4_typeBehindSign cX4_typeBehindSign 2 (some .int)) ({ frames := 0, cells := 0, slots := 0, locals := 0 }) (va_Pc [.ref h0] (hp dC dI cI cZ cL sz [(h0, .inr (4, [.ref n0, .ref a1, .ref a2, .ref a3, .int 0, .int 0, .int 0, .int 0, .int 0]))])) (va_Qi (fun (r : Int32) (_ : Unit) => r = -1) (fun (_ : Unit) t => va_P (dC, dI) vwCl [(h0, .inr (4, [.ref n0, .ref a1, .ref a2, .ref a3, .int 0, .int 0, .int 0, .int 0, .int 0]))] t.heap ∧ va_D (va_A [(h0, .inr (4, [.ref n0, .ref a1, .ref a2, .ref a3, .int 0, .int 0, .int 0, .int 0, .int 0]))] sz) [(h0, .inr (4, [.ref n0, .ref a1, .ref a2, .ref a3, .int 0, .int 0, .int 0, .int 0, .int 0]))]) (va_A [(h0, .inr (4, [.ref n0, .ref a1, .ref a2, .ref a3, .int 0, .int 0, .int 0, .int 0, .int 0]))] sz)) 0 0 (va_A [(h0, .inr (4, [.ref n0, .ref a1, .ref a2, .ref a3, .int 0, .int 0, .int 0, .int 0, .int 0]))] sz) := by
  refine Met.ofW (cc := cX4_typeBehindSign) (maxL := 2) (ret := (some .int)) (by decide) rfl ?_
  intro p e s m args below meth c s₁ B hml hv
  obtain ⟨rfl, hsz, hP, hK, hD0⟩ := hv
  have hx := B.exec
  have hb := B.bytes
  have hr := B.returns
  have hw9 := atoms_spec (ws := (wd yX4_typeBehindSign cX4_typeBehindSign 2 (some .int))) B.pre
  have hg := gw_hts hw9
  have hown : s.vm.findClass RX4 = some m.cls := findClass_of_methodNamed B.named
  have hlocks := B.notSynchronized
  subst hsz
  have hD := hD0.self (sz := s.heap.size)
  generalize hAe : va_A [(h0, .inr (4, [.ref n0, .ref a1, .ref a2, .ref a3, .int 0, .int 0, .int 0, .int 0, .int 0]))] s.heap.size = A at hD ⊢
  have hA : ∀ q : Nat, s.heap.size ≤ q → A q := fun q h => by rw [← hAe]; exact Or.inr h
  have hS : va_S A s.heap s.heap [] := va_S.rf
  have hl := lv_entry ([.ref h0]) (n := 2) (Nat.le_of_ble_eq_true rfl)
  rw [lg_entry_eq]
  generalize (lg_sl ([.ref h0]) ++ List.replicate (2 - (lg_sl ([.ref h0])).length) Slot.unset).toArray = ls at hl ⊢
  have hl : lv_has ls 2 [(0, .ref h0)] := hl
  refine lv_aload_n hx hb dX4_typeBehindSign_0 rfl (lv_at hl 0 rfl) ?_
  refine va_get (D := (dC, dI)) (ci := 4) (v := .int 0) (C := RX4) (T := TX4) (N := 9) hx hb hg i_X4 hown hK hP 0 rfl rfl 8 (by decide) (hg _ k_67) (fun _ h9 => h9) rfl dX4_typeBehindSign_1 ?_
  refine lv_iconst (v := (-1)) hx hb dX4_typeBehindSign_4 (by decide) ?_
  refine lv_icmp_eq (tgt := 10) hx hb dX4_typeBehindSign_5 (by decide) (fun c9 => absurd c9 (by decide)) (fun _ => ?_)
  refine lv_iconst (v := (-1)) hx hb dX4_typeBehindSign_8 (by decide) ?_
  have hP9 := hP.sub (ws' := [(h0, .inr (4, [.ref n0, .ref a1, .ref a2, .ref a3, .int 0, .int 0, .int 0, .int 0, .int 0]))]) [0] rfl
  have hD9 := hD.sub (ws' := [(h0, .inr (4, [.ref n0, .ref a1, .ref a2, .ref a3, .int 0, .int 0, .int 0, .int 0, .int 0]))]) [0] (by decide) rfl
  refine W.widen (k := 0) (n := 0) (Nat.le_of_ble_eq_true rfl) (Nat.le_of_ble_eq_true rfl) ?_
  exact W.iret (v := (-1)) hx hb hr (fun t ht hW => ⟨⟨(-1), (), rfl, rfl, by rw [ht]; exact hP9, hD9⟩, hS.F ht⟩) hS.2.2 dX4_typeBehindSign_9

set_option maxHeartbeats 4000000 in
set_option maxRecDepth 100000 in
/-- place() of a new object -/
theorem c_X6_place (l : Launch) (dC : Nat → ClassId) (dI : Nat → Nat → Nat) (cI cZ cL : ClassId) (h0 : Nat) (sz : Nat) (n0 r0 j0 p0 a1 : Nat) : Met l yX6_place (wd yX6_place cX6_place 1 (some .int)) ({ frames := 0, cells := 0, slots := 0, locals := 0 }) (va_Pc [.ref h0] (hp dC dI cI cZ cL sz [(h0, .inr (6, [.ref a1, .int 0, .int (-1), .ref n0, .ref r0, .ref j0, .ref p0]))])) (va_Qi (fun (r : Int32) (_ : Unit) => r = -1) (fun (_ : Unit) t => va_P (dC, dI) vwCl [] t.heap ∧ va_D (va_A [(h0, .inr (6, [.ref a1, .int 0, .int (-1), .ref n0, .ref r0, .ref j0, .ref p0]))] sz) []) (va_A [(h0, .inr (6, [.ref a1, .int 0, .int (-1), .ref n0, .ref r0, .ref j0, .ref p0]))] sz)) 0 0 (va_A [(h0, .inr (6, [.ref a1, .int 0, .int (-1), .ref n0, .ref r0, .ref j0, .ref p0]))] sz) := by
  refine Met.ofW (cc := cX6_place) (maxL := 1) (ret := (some .int)) (by decide) rfl ?_
  intro p e s m args below meth c s₁ B hml hv
  obtain ⟨rfl, hsz, hP, hK, hD0⟩ := hv
  have hx := B.exec
  have hb := B.bytes
  have hr := B.returns
  have hw9 := atoms_spec (ws := (wd yX6_place cX6_place 1 (some .int))) B.pre
  have hg := gw_hts hw9
  have hown : s.vm.findClass RX6 = some m.cls := findClass_of_methodNamed B.named
  have hlocks := B.notSynchronized
  subst hsz
  have hD := hD0.self (sz := s.heap.size)
  generalize hAe : va_A [(h0, .inr (6, [.ref a1, .int 0, .int (-1), .ref n0, .ref r0, .ref j0, .ref p0]))] s.heap.size = A at hD ⊢
  have hA : ∀ q : Nat, s.heap.size ≤ q → A q := fun q h => by rw [← hAe]; exact Or.inr h
  have hS : va_S A s.heap s.heap [] := va_S.rf
  have hl := lv_entry ([.ref h0]) (n := 1) (Nat.le_of_ble_eq_true rfl)
  rw [lg_entry_eq]
  generalize (lg_sl ([.ref h0]) ++ List.replicate (1 - (lg_sl ([.ref h0])).length) Slot.unset).toArray = ls at hl ⊢
  have hl : lv_has ls 1 [(0, .ref h0)] := hl
  refine lv_aload_n hx hb dX6_place_0 rfl (lv_at hl 0 rfl) ?_
  refine va_get (D := (dC, dI)) (ci := 6) (v := .int (-1)) (C := RX6) (T := TX6) (N := 7) hx hb hg i_X6 hown hK hP 0 rfl rfl 2 (by decide) (hg _ k_73) (fun _ h9 => h9) rfl dX6_place_1 ?_
  have hP9 := hP.sub (ws' := []) [] rfl
  have hD9 := hD.sub (ws' := []) [] (by decide) rfl
  refine W.widen (k := 0) (n := 0) (Nat.le_of_ble_eq_true rfl) (Nat.le_of_ble_eq_true rfl) ?_
  exact W.iret (v := (-1)) hx hb hr (fun t ht hW => ⟨⟨(-1), (), rfl, rfl, by rw [ht]; exact hP9, hD9⟩, hS.F ht⟩) hS.2.2 dX6_place_4

set_option maxHeartbeats 4000000 in
set_option maxRecDepth 100000 in
/-- has(NONE) -/
theorem c_X2_has (l : Launch) (dC : Nat → ClassId) (dI : Nat → Nat → Nat) (cI cZ cL : ClassId) (h0 : Nat) (sz : Nat) (b1 b2 b3 b4 b5 : Nat) : Met l yX2_has (wd yX2_has cX2_has 2 (some .boolean)) ({ frames := 0, cells := 0, slots := 0, locals := 0 }) (va_Pc [.ref h0, .int (-1)] (hp dC dI cI cZ cL sz [(h0, .inr (2, [.ref b1, .ref b2, .ref b3, .ref b4, .ref b5, .int 0]))])) (va_Qi (fun (r : Int32) (_ : Unit) => r = 0) (fun (_ : Unit) t => va_P (dC, dI) vwCl [(h0, .inr (2, [.ref b1, .ref b2, .ref b3, .ref b4, .ref b5, .int 0]))] t.heap ∧ va_D (va_A [(h0, .inr (2, [.ref b1, .ref b2, .ref b3, .ref b4, .ref b5, .int 0]))] sz) [(h0, .inr (2, [.ref b1, .ref b2, .ref b3, .ref b4, .ref b5, .int 0]))]) (va_A [(h0, .inr (2, [.ref b1, .ref b2, .ref b3, .ref b4, .ref b5, .int 0]))] sz)) 0 0 (va_A [(h0, .inr (2, [.ref b1, .ref b2, .ref b3, .ref b4, .ref b5, .int 0]))] sz) := by
  refine Met.ofW (cc := cX2_has) (maxL := 2) (ret := (some .boolean)) (by decide) rfl ?_
  intro p e s m args below meth c s₁ B hml hv
  obtain ⟨rfl, hsz, hP, hK, hD0⟩ := hv
  have hx := B.exec
  have hb := B.bytes
  have hr := B.returns
  have hw9 := atoms_spec (ws := (wd yX2_has cX2_has 2 (some .boolean))) B.pre
  have hg := gw_hts hw9
  have hown : s.vm.findClass RX2 = some m.cls := findClass_of_methodNamed B.named
  have hlocks := B.notSynchronized
  subst hsz
  have hD := hD0.self (sz := s.heap.size)
  generalize hAe : va_A [(h0, .inr (2, [.ref b1, .ref b2, .ref b3, .ref b4, .ref b5, .int 0]))] s.heap.size = A at hD ⊢
  have hA : ∀ q : Nat, s.heap.size ≤ q → A q := fun q h => by rw [← hAe]; exact Or.inr h
  have hS : va_S A s.heap s.heap [] := va_S.rf
  have hl := lv_entry ([.ref h0, .int (-1)]) (n := 2) (Nat.le_of_ble_eq_true rfl)
  rw [lg_entry_eq]
  generalize (lg_sl ([.ref h0, .int (-1)]) ++ List.replicate (2 - (lg_sl ([.ref h0, .int (-1)])).length) Slot.unset).toArray = ls at hl ⊢
  have hl : lv_has ls 2 [(0, .ref h0), (1, .int (-1))] := hl
  refine lv_iload_n hx hb dX2_has_0 rfl (lv_at hl 1 rfl) ?_
  refine lv_if_lt (tgt := 16) hx hb dX2_has_1 (by decide) (fun _ => ?_) (fun c9 => absurd (by decide) c9)
  refine lv_iconst (v := 0) hx hb dX2_has_16 (by decide) ?_
  have hP9 := hP.sub (ws' := [(h0, .inr (2, [.ref b1, .ref b2, .ref b3, .ref b4, .ref b5, .int 0]))]) [0] rfl
  have hD9 := hD.sub (ws' := [(h0, .inr (2, [.ref b1, .ref b2, .ref b3, .ref b4, .ref b5, .int 0]))]) [0] (by decide) rfl
  refine W.widen (k := 0) (n := 0) (Nat.le_of_ble_eq_true rfl) (Nat.le_of_ble_eq_true rfl) ?_
  exact W.zret (ty := .boolean) (v := 0) hx hb hr (by decide) (fun t ht hW => ⟨⟨0, (), rfl, rfl, by rw [ht]; exact hP9, hD9⟩, hS.F ht⟩) hS.2.2 dX2_has_17

set_option maxHeartbeats 4000000 in
set_option maxRecDepth 100000 in
/-- lengthOf(NONE) -/
theorem c_X3_lengthOf (l : Launch) (dC : Nat → ClassId) (dI : Nat → Nat → Nat) (cI cZ cL : ClassId) (h0 n0 : Nat) (sz : Nat) (p1 p2 b1 b2 b3 b4 b5 : Nat) : Met l yX3_lengthOf (wd yX3_lengthOf cX3_lengthOf 2 (some .int)) ({ frames := 1, cells := 0, slots := 0, locals := 21 }) (va_Pc [.ref h0, .int (-1)] (hp dC dI cI cZ cL sz [(h0, .inr (3, [.ref n0, .ref p1, .ref p2, .int 0, .int (-1), .int 0])), (n0, .inr (2, [.ref b1, .ref b2, .ref b3, .ref b4, .ref b5, .int 0]))])) (va_Qi (fun (r : Int32) (_ : Unit) => r = 0) (fun (_ : Unit) t => va_P (dC, dI) vwCl [(h0, .inr (3, [.ref n0, .ref p1, .ref p2, .int 0, .int (-1), .int 0])), (n0, .inr (2, [.ref b1, .ref b2, .ref b3, .ref b4, .ref b5, .int 0]))] t.heap ∧ va_D (va_A [(h0, .inr (3, [.ref n0, .ref p1, .ref p2, .int 0, .int (-1), .int 0])), (n0, .inr (2, [.ref b1, .ref b2, .ref b3, .ref b4, .ref b5, .int 0]))] sz) [(h0, .inr (3, [.ref n0, .ref p1, .ref p2, .int 0, .int (-1), .int 0])), (n0, .inr (2, [.ref b1, .ref b2, .ref b3, .ref b4, .ref b5, .int 0]))]) (va_A [(h0, .inr (3, [.ref n0, .ref p1, .ref p2, .int 0, .int (-1), .int 0])), (n0, .inr (2, [.ref b1, .ref b2, .ref b3, .ref b4, .ref b5, .int 0]))] sz)) 0 0 (va_A [(h0, .inr (3, [.ref n0, .ref p1, .ref p2, .int 0, .int (-1), .int 0])), (n0, .inr (2, [.ref b1, .ref b2, .ref b3, .ref b4, .ref b5, .int 0]))] sz) := by
  refine Met.ofW (cc := cX3_lengthOf) (maxL := 2) (ret := (some .int)) (by decide) rfl ?_
  intro p e s m args below meth c s₁ B hml hv
  obtain ⟨rfl, hsz, hP, hK, hD0⟩ := hv
  have hx := B.exec
  have hb := B.bytes
  have hr := B.returns
  have hw9 := atoms_spec (ws := (wd yX3_lengthOf cX3_lengthOf 2 (some .int))) B.pre
  have hg := gw_hts hw9
  have hown : s.vm.findClass RX3 = some m.cls := findClass_of_methodNamed B.named
  have hlocks := B.notSynchronized
  subst hsz
  have hD := hD0.self (sz := s.heap.size)
  generalize hAe : va_A [(h0, .inr (3, [.ref n0, .ref p1, .ref p2, .int 0, .int (-1), .int 0])), (n0, .inr (2, [.ref b1, .ref b2, .ref b3, .ref b4, .ref b5, .int 0]))] s.heap.size = A at hD ⊢
  have hA : ∀ q : Nat, s.heap.size ≤ q → A q := fun q h => by rw [← hAe]; exact Or.inr h
  have hS : va_S A s.heap s.heap [] := va_S.rf
  have hl := lv_entry ([.ref h0, .int (-1)]) (n := 2) (Nat.le_of_ble_eq_true rfl)
  rw [lg_entry_eq]
  generalize (lg_sl ([.ref h0, .int (-1)]) ++ List.replicate (2 - (lg_sl ([.ref h0, .int (-1)])).length) Slot.unset).toArray = ls at hl ⊢
  have hl : lv_has ls 2 [(0, .ref h0), (1, .int (-1))] := hl
  refine lv_aload_n hx hb dX3_lengthOf_0 rfl (lv_at hl 0 rfl) ?_
  refine va_get (D := (dC, dI)) (ci := 3) (v := .ref n0) (C := RX3) (T := TX3) (N := 6) hx hb hg i_X3 hown hK hP 0 rfl rfl 0 (by decide) (hg _ k_59) (fun _ h9 => h9) rfl dX3_lengthOf_1 ?_
  refine lv_iload_n hx hb dX3_lengthOf_4 rfl (lv_at hl 1 rfl) ?_
  have hPc := hP.sub (ws' := [(n0, .inr (2, [.ref b1, .ref b2, .ref b3, .ref b4, .ref b5, .int 0]))]) [1] rfl
  have hDc := hD.sub (ws' := [(n0, .inr (2, [.ref b1, .ref b2, .ref b3, .ref b4, .ref b5, .int 0]))]) [1] (by decide) rfl
  have hFc := va_free (wc := [(n0, .inr (2, [.ref b1, .ref b2, .ref b3, .ref b4, .ref b5, .int 0]))]) hD hS hA [1] rfl
  refine va_calli (va_runV (As := [.int (-1)]) (rest := []) ⟨hx, hb, hml, hown, hg⟩ (c_X2_has l dC dI cI cZ cL n0 (Array.size _) b1 b2 b3 b4 b5) (cwV 1 hg (gw_V k_194 k_195 k_196 k_76 g_yX2_has) rfl rfl rfl (by decide +kernel) ⟨(Nat.le_of_ble_eq_true rfl), (Nat.le_of_ble_eq_true rfl)⟩) ⟨hp_bl, va_recv hK hPc (ci := 2) (q0 := 0) rfl rfl, fun U hU hW => hp_ok hU hW hPc hK hDc⟩ rfl rfl hl.1 rfl (lv_room (Nat.le_of_ble_eq_true rfl)) dX3_lengthOf_5 ⟨(Nat.le_of_ble_eq_true rfl), (Nat.le_of_ble_eq_true rfl)⟩) hS (fun q _ h => hFc q h) hFc (fun r9 u t H locs ht hvm hw hB hz1 hk1 hS => ?_)
  obtain ⟨hP1, hD1⟩ := hB
  rw [ht] at hP1
  obtain ⟨hP, hD⟩ := va_join (wr := [(h0, .inr (3, [.ref n0, .ref p1, .ref p2, .int 0, .int (-1), .int 0]))]) (w1 := [(n0, .inr (2, [.ref b1, .ref b2, .ref b3, .ref b4, .ref b5, .int 0]))]) hP hD [1] [0] rfl rfl (by decide) (by decide) hk1 hFc hP1 hD1
  have hP : va_P (dC, dI) vwCl [(h0, .inr (3, [.ref n0, .ref p1, .ref p2, .int 0, .int (-1), .int 0])), (n0, .inr (2, [.ref b1, .ref b2, .ref b3, .ref b4, .ref b5, .int 0]))] H := hP
  have hD : va_D A [(h0, .inr (3, [.ref n0, .ref p1, .ref p2, .int 0, .int (-1), .int 0])), (n0, .inr (2, [.ref b1, .ref b2, .ref b3, .ref b4, .ref b5, .int 0]))] := hD
  refine W.widen (k := 0) (n := 0) (Nat.le_of_ble_eq_true rfl) (Nat.le_of_ble_eq_true rfl) ?_
  obtain rfl : r9 = 0 := hw
  refine lv_if_eq (tgt := 20) hx hb dX3_lengthOf_8 (by decide) (fun _ => ?_) (fun c9 => absurd (by decide) c9)
  refine lv_iconst (v := 0) hx hb dX3_lengthOf_20 (by decide) ?_
  have hP9 := hP.sub (ws' := [(h0, .inr (3, [.ref n0, .ref p1, .ref p2, .int 0, .int (-1), .int 0])), (n0, .inr (2, [.ref b1, .ref b2, .ref b3, .ref b4, .ref b5, .int 0]))]) [0, 1] rfl
  have hD9 := hD.sub (ws' := [(h0, .inr (3, [.ref n0, .ref p1, .ref p2, .int 0, .int (-1), .int 0])), (n0, .inr (2, [.ref b1, .ref b2, .ref b3, .ref b4, .ref b5, .int 0]))]) [0, 1] (by decide) rfl
  refine W.widen (k := 0) (n := 0) (Nat.le_of_ble_eq_true rfl) (Nat.le_of_ble_eq_true rfl) ?_
  exact W.iret (v := 0) hx hb hr (fun t ht hW => ⟨⟨0, (), rfl, rfl, by rw [ht]; exact hP9, hD9⟩, hS.F ht⟩) hS.2.2 dX3_lengthOf_21

set_option maxHeartbeats 4000000 in
set_option maxRecDepth 100000 in
/-- length() of a new printer -/
theorem c_X3_length (l : Launch) (dC : Nat → ClassId) (dI : Nat → Nat → Nat) (cI cZ cL : ClassId) (h0 n0 : Nat) (sz : Nat) (p1 p2 b1 b2 b3 b4 b5 : Nat) : Met l yX3_length (wd yX3_length cX3_length 1 (some .int)) ({ frames := 2, cells := 0, slots := 0, locals := 42 }) (va_Pc [.ref h0] (hp dC dI cI cZ cL sz [(h0, .inr (3, [.ref n0, .ref p1, .ref p2, .int 0, .int (-1), .int 0])), (n0, .inr (2, [.ref b1, .ref b2, .ref b3, .ref b4, .ref b5, .int 0]))])) (va_Qi (fun (r : Int32) (_ : Unit) => r = 0) (fun (_ : Unit) t => va_P (dC, dI) vwCl [(h0, .inr (3, [.ref n0, .ref p1, .ref p2, .int 0, .int (-1), .int 0])), (n0, .inr (2, [.ref b1, .ref b2, .ref b3, .ref b4, .ref b5, .int 0]))] t.heap ∧ va_D (va_A [(h0, .inr (3, [.ref n0, .ref p1, .ref p2, .int 0, .int (-1), .int 0])), (n0, .inr (2, [.ref b1, .ref b2, .ref b3, .ref b4, .ref b5, .int 0]))] sz) [(h0, .inr (3, [.ref n0, .ref p1, .ref p2, .int 0, .int (-1), .int 0])), (n0, .inr (2, [.ref b1, .ref b2, .ref b3, .ref b4, .ref b5, .int 0]))]) (va_A [(h0, .inr (3, [.ref n0, .ref p1, .ref p2, .int 0, .int (-1), .int 0])), (n0, .inr (2, [.ref b1, .ref b2, .ref b3, .ref b4, .ref b5, .int 0]))] sz)) 0 0 (va_A [(h0, .inr (3, [.ref n0, .ref p1, .ref p2, .int 0, .int (-1), .int 0])), (n0, .inr (2, [.ref b1, .ref b2, .ref b3, .ref b4, .ref b5, .int 0]))] sz) := by
  refine Met.ofW (cc := cX3_length) (maxL := 1) (ret := (some .int)) (by decide) rfl ?_
  intro p e s m args below meth c s₁ B hml hv
  obtain ⟨rfl, hsz, hP, hK, hD0⟩ := hv
  have hx := B.exec
  have hb := B.bytes
  have hr := B.returns
  have hw9 := atoms_spec (ws := (wd yX3_length cX3_length 1 (some .int))) B.pre
  have hg := gw_hts hw9
  have hown : s.vm.findClass RX3 = some m.cls := findClass_of_methodNamed B.named
  have hlocks := B.notSynchronized
  subst hsz
  have hD := hD0.self (sz := s.heap.size)
  generalize hAe : va_A [(h0, .inr (3, [.ref n0, .ref p1, .ref p2, .int 0, .int (-1), .int 0])), (n0, .inr (2, [.ref b1, .ref b2, .ref b3, .ref b4, .ref b5, .int 0]))] s.heap.size = A at hD ⊢
  have hA : ∀ q : Nat, s.heap.size ≤ q → A q := fun q h => by rw [← hAe]; exact Or.inr h
  have hS : va_S A s.heap s.heap [] := va_S.rf
  have hl := lv_entry ([.ref h0]) (n := 1) (Nat.le_of_ble_eq_true rfl)
  rw [lg_entry_eq]
  generalize (lg_sl ([.ref h0]) ++ List.replicate (1 - (lg_sl ([.ref h0])).length) Slot.unset).toArray = ls at hl ⊢
  have hl : lv_has ls 1 [(0, .ref h0)] := hl
  refine lv_aload_n hx hb dX3_length_0 rfl (lv_at hl 0 rfl) ?_
  refine lv_aload_n hx hb dX3_length_1 rfl (lv_at hl 0 rfl) ?_
  refine va_get (D := (dC, dI)) (ci := 3) (v := .int (-1)) (C := RX3) (T := TX3) (N := 6) hx hb hg i_X3 hown hK hP 0 rfl rfl 4 (by decide) (hg _ k_57) (fun _ h9 => h9) rfl dX3_length_2 ?_
  have hPc := hP.sub (ws' := [(h0, .inr (3, [.ref n0, .ref p1, .ref p2, .int 0, .int (-1), .int 0])), (n0, .inr (2, [.ref b1, .ref b2, .ref b3, .ref b4, .ref b5, .int 0]))]) [0, 1] rfl
  have hDc := hD.sub (ws' := [(h0, .inr (3, [.ref n0, .ref p1, .ref p2, .int 0, .int (-1), .int 0])), (n0, .inr (2, [.ref b1, .ref b2, .ref b3, .ref b4, .ref b5, .int 0]))]) [0, 1] (by decide) rfl
  have hFc := va_free (wc := [(h0, .inr (3, [.ref n0, .ref p1, .ref p2, .int 0, .int (-1), .int 0])), (n0, .inr (2, [.ref b1, .ref b2, .ref b3, .ref b4, .ref b5, .int 0]))]) hD hS hA [0, 1] rfl
  refine va_calli (va_runV (As := [.int (-1)]) (rest := []) ⟨hx, hb, hml, hown, hg⟩ (c_X3_lengthOf l dC dI cI cZ cL h0 n0 (Array.size _) p1 p2 b1 b2 b3 b4 b5) (cwV 1 hg (gw_V k_197 k_198 k_199 k_93 g_yX3_lengthOf) rfl rfl rfl (by decide +kernel) ⟨(Nat.le_of_ble_eq_true rfl), (Nat.le_of_ble_eq_true rfl)⟩) ⟨hp_bl, va_recv hK hPc (ci := 3) (q0 := 0) rfl rfl, fun U hU hW => hp_ok hU hW hPc hK hDc⟩ rfl rfl hl.1 rfl (lv_room (Nat.le_of_ble_eq_true rfl)) dX3_length_5 ⟨(Nat.le_of_ble_eq_true rfl), (Nat.le_of_ble_eq_true rfl)⟩) hS (fun q _ h => hFc q h) hFc (fun r9 u t H locs ht hvm hw hB hz1 hk1 hS => ?_)
  obtain ⟨hP1, hD1⟩ := hB
  rw [ht] at hP1
  obtain ⟨hP, hD⟩ := va_join (wr := []) (w1 := [(h0, .inr (3, [.ref n0, .ref p1, .ref p2, .int 0, .int (-1), .int 0])), (n0, .inr (2, [.ref b1, .ref b2, .ref b3, .ref b4, .ref b5, .int 0]))]) hP hD [0, 1] [] rfl rfl (by decide) (by decide) hk1 hFc hP1 hD1
  have hP : va_P (dC, dI) vwCl [(h0, .inr (3, [.ref n0, .ref p1, .ref p2, .int 0, .int (-1), .int 0])), (n0, .inr (2, [.ref b1, .ref b2, .ref b3, .ref b4, .ref b5, .int 0]))] H := hP
  have hD : va_D A [(h0, .inr (3, [.ref n0, .ref p1, .ref p2, .int 0, .int (-1), .int 0])), (n0, .inr (2, [.ref b1, .ref b2, .ref b3, .ref b4, .ref b5, .int 0]))] := hD
  refine W.widen (k := 0) (n := 0) (Nat.le_of_ble_eq_true rfl) (Nat.le_of_ble_eq_true rfl) ?_
  obtain rfl : r9 = 0 := hw
  have hP9 := hP.sub (ws' := [(h0, .inr (3, [.ref n0, .ref p1, .ref p2, .int 0, .int (-1), .int 0])), (n0, .inr (2, [.ref b1, .ref b2, .ref b3, .ref b4, .ref b5, .int 0]))]) [0, 1] rfl
  have hD9 := hD.sub (ws' := [(h0, .inr (3, [.ref n0, .ref p1, .ref p2, .int 0, .int (-1), .int 0])), (n0, .inr (2, [.ref b1, .ref b2, .ref b3, .ref b4, .ref b5, .int 0]))]) [0, 1] (by decide) rfl
  refine W.widen (k := 0) (n := 0) (Nat.le_of_ble_eq_true rfl) (Nat.le_of_ble_eq_true rfl) ?_
  exact W.iret (v := 0) hx hb hr (fun t ht hW => ⟨⟨0, (), rfl, rfl, by rw [ht]; exact hP9, hD9⟩, hS.F ht⟩) hS.2.2 dX3_length_8

set_option maxHeartbeats 4000000 in
set_option maxRecDepth 100000 in
/-- size() of a new object -/
theorem c_X6_size (l : Launch) (dC : Nat → ClassId) (dI : Nat → Nat → Nat) (cI cZ cL : ClassId) (h0 p0 n0 : Nat) (sz : Nat) (r0 j0 a1 p1 p2 b1 b2 b3 b4 b5 : Nat) : Met l yX6_size (wd yX6_size cX6_size 1 (some .int)) ({ frames := 3, cells := 0, slots := 0, locals := 62 }) (va_Pc [.ref h0] (hp dC dI cI cZ cL sz [(h0, .inr (6, [.ref a1, .int 0, .int (-1), .ref n0, .ref r0, .ref j0, .ref p0])), (p0, .inr (3, [.ref n0, .ref p1, .ref p2, .int 0, .int (-1), .int 0])), (n0, .inr (2, [.ref b1, .ref b2, .ref b3, .ref b4, .ref b5, .int 0]))])) (va_Qi (fun (r : Int32) (_ : Unit) => r = 0) (fun (_ : Unit) t => va_P (dC, dI) vwCl [] t.heap ∧ va_D (va_A [(h0, .inr (6, [.ref a1, .int 0, .int (-1), .ref n0, .ref r0, .ref j0, .ref p0])), (p0, .inr (3, [.ref n0, .ref p1, .ref p2, .int 0, .int (-1), .int 0])), (n0, .inr (2, [.ref b1, .ref b2, .ref b3, .ref b4, .ref b5, .int 0]))] sz) []) (va_A [(h0, .inr (6, [.ref a1, .int 0, .int (-1), .ref n0, .ref r0, .ref j0, .ref p0])), (p0, .inr (3, [.ref n0, .ref p1, .ref p2, .int 0, .int (-1), .int 0])), (n0, .inr (2, [.ref b1, .ref b2, .ref b3, .ref b4, .ref b5, .int 0]))] sz)) 0 0 (va_A [(h0, .inr (6, [.ref a1, .int 0, .int (-1), .ref n0, .ref r0, .ref j0, .ref p0])), (p0, .inr (3, [.ref n0, .ref p1, .ref p2, .int 0, .int (-1), .int 0])), (n0, .inr (2, [.ref b1, .ref b2, .ref b3, .ref b4, .ref b5, .int 0]))] sz) := by
  refine Met.ofW (cc := cX6_size) (maxL := 1) (ret := (some .int)) (by decide) rfl ?_
  intro p e s m args below meth c s₁ B hml hv
  obtain ⟨rfl, hsz, hP, hK, hD0⟩ := hv
  have hx := B.exec
  have hb := B.bytes
  have hr := B.returns
  have hw9 := atoms_spec (ws := (wd yX6_size cX6_size 1 (some .int))) B.pre
  have hg := gw_hts hw9
  have hown : s.vm.findClass RX6 = some m.cls := findClass_of_methodNamed B.named
  have hlocks := B.notSynchronized
  subst hsz
  have hD := hD0.self (sz := s.heap.size)
  generalize hAe : va_A [(h0, .inr (6, [.ref a1, .int 0, .int (-1), .ref n0, .ref r0, .ref j0, .ref p0])), (p0, .inr (3, [.ref n0, .ref p1, .ref p2, .int 0, .int (-1), .int 0])), (n0, .inr (2, [.ref b1, .ref b2, .ref b3, .ref b4, .ref b5, .int 0]))] s.heap.size = A at hD ⊢
  have hA : ∀ q : Nat, s.heap.size ≤ q → A q := fun q h => by rw [← hAe]; exact Or.inr h
  have hS : va_S A s.heap s.heap [] := va_S.rf
  have hl := lv_entry ([.ref h0]) (n := 1) (Nat.le_of_ble_eq_true rfl)
  rw [lg_entry_eq]
  generalize (lg_sl ([.ref h0]) ++ List.replicate (1 - (lg_sl ([.ref h0])).length) Slot.unset).toArray = ls at hl ⊢
  have hl : lv_has ls 1 [(0, .ref h0)] := hl
  refine lv_aload_n hx hb dX6_size_0 rfl (lv_at hl 0 rfl) ?_
  refine va_get (D := (dC, dI)) (ci := 6) (v := .ref p0) (C := RX6) (T := TX6) (N := 7) hx hb hg i_X6 hown hK hP 0 rfl rfl 6 (by decide) (hg _ k_96) (fun _ h9 => h9) rfl dX6_size_1 ?_
  have hPc := hP.sub (ws' := [(p0, .inr (3, [.ref n0, .ref p1, .ref p2, .int 0, .int (-1), .int 0])), (n0, .inr (2, [.ref b1, .ref b2, .ref b3, .ref b4, .ref b5, .int 0]))]) [1, 2] rfl
  have hDc := hD.sub (ws' := [(p0, .inr (3, [.ref n0, .ref p1, .ref p2, .int 0, .int (-1), .int 0])), (n0, .inr (2, [.ref b1, .ref b2, .ref b3, .ref b4, .ref b5, .int 0]))]) [1, 2] (by decide) rfl
  have hFc := va_free (wc := [(p0, .inr (3, [.ref n0, .ref p1, .ref p2, .int 0, .int (-1), .int 0])), (n0, .inr (2, [.ref b1, .ref b2, .ref b3, .ref b4, .ref b5, .int 0]))]) hD hS hA [1, 2] rfl
  refine va_calli (va_runV (As := []) (rest := []) ⟨hx, hb, hml, hown, hg⟩ (c_X3_length l dC dI cI cZ cL p0 n0 (Array.size _) p1 p2 b1 b2 b3 b4 b5) (cwV 0 hg (gw_V k_200 k_201 k_202 k_93 g_yX3_length) rfl rfl rfl (by decide +kernel) ⟨(Nat.le_of_ble_eq_true rfl), (Nat.le_of_ble_eq_true rfl)⟩) ⟨hp_bl, va_recv hK hPc (ci := 3) (q0 := 0) rfl rfl, fun U hU hW => hp_ok hU hW hPc hK hDc⟩ rfl rfl hl.1 rfl (lv_room (Nat.le_of_ble_eq_true rfl)) dX6_size_4 ⟨(Nat.le_of_ble_eq_true rfl), (Nat.le_of_ble_eq_true rfl)⟩) hS (fun q _ h => hFc q h) hFc (fun r9 u t H locs ht hvm hw hB hz1 hk1 hS => ?_)
  obtain ⟨hP1, hD1⟩ := hB
  rw [ht] at hP1
  obtain ⟨hP, hD⟩ := va_join (wr := [(h0, .inr (6, [.ref a1, .int 0, .int (-1), .ref n0, .ref r0, .ref j0, .ref p0]))]) (w1 := [(p0, .inr (3, [.ref n0, .ref p1, .ref p2, .int 0, .int (-1), .int 0])), (n0, .inr (2, [.ref b1, .ref b2, .ref b3, .ref b4, .ref b5, .int 0]))]) hP hD [1, 2] [0] rfl rfl (by decide) (by decide) hk1 hFc hP1 hD1
  have hP : va_P (dC, dI) vwCl [(h0, .inr (6, [.ref a1, .int 0, .int (-1), .ref n0, .ref r0, .ref j0, .ref p0])), (p0, .inr (3, [.ref n0, .ref p1, .ref p2, .int 0, .int (-1), .int 0])), (n0, .inr (2, [.ref b1, .ref b2, .ref b3, .ref b4, .ref b5, .int 0]))] H := hP
  have hD : va_D A [(h0, .inr (6, [.ref a1, .int 0, .int (-1), .ref n0, .ref r0, .ref j0, .ref p0])), (p0, .inr (3, [.ref n0, .ref p1, .ref p2, .int 0, .int (-1), .int 0])), (n0, .inr (2, [.ref b1, .ref b2, .ref b3, .ref b4, .ref b5, .int 0]))] := hD
  refine W.widen (k := 0) (n := 0) (Nat.le_of_ble_eq_true rfl) (Nat.le_of_ble_eq_true rfl) ?_
  obtain rfl : r9 = 0 := hw
  have hP9 := hP.sub (ws' := []) [] rfl
  have hD9 := hD.sub (ws' := []) [] (by decide) rfl
  refine W.widen (k := 0) (n := 0) (Nat.le_of_ble_eq_true rfl) (Nat.le_of_ble_eq_true rfl) ?_
  exact W.iret (v := 0) hx hb hr (fun t ht hW => ⟨⟨0, (), rfl, rfl, by rw [ht]; exact hP9, hD9⟩, hS.F ht⟩) hS.2.2 dX6_size_7

set_option maxHeartbeats 4000000 in
set_option maxRecDepth 100000 in
/-- madeUnknowns() -/
theorem c_X1_madeUnknowns (l : Launch) (dC : Nat → ClassId) (dI : Nat → Nat → Nat) (cI cZ cL : ClassId) (h0 : Nat) (sz : Nat) (n0 x0 j2 j3 j4 j5 : Nat) : Met l yX1_madeUnknowns (wd yX1_madeUnknowns cX1_madeUnknowns 1 (some .int)) ({ frames := 0, cells := 0, slots := 0, locals := 0 }) (va_Pc [.ref h0] (hp dC dI cI cZ cL sz [(h0, .inr (1, [.ref n0, .ref x0, .ref j2, .ref j3, .ref j4, .ref j5, .int 0, .int 0, .int (-1), .int 0, .int 0]))])) (va_Qi (fun (r : Int32) (_ : Unit) => r = 0) (fun (_ : Unit) t => va_P (dC, dI) vwCl [] t.heap ∧ va_D (va_A [(h0, .inr (1, [.ref n0, .ref x0, .ref j2, .ref j3, .ref j4, .ref j5, .int 0, .int 0, .int (-1), .int 0, .int 0]))] sz) []) (va_A [(h0, .inr (1, [.ref n0, .ref x0, .ref j2, .ref j3, .ref j4, .ref j5, .int 0, .int 0, .int (-1), .int 0, .int 0]))] sz)) 0 0 (va_A [(h0, .inr (1, [.ref n0, .ref x0, .ref j2, .ref j3, .ref j4, .ref j5, .int 0, .int 0, .int (-1), .int 0, .int 0]))] sz) := by
  refine Met.ofW (cc := cX1_madeUnknowns) (maxL := 1) (ret := (some .int)) (by decide) rfl ?_
  intro p e s m args below meth c s₁ B hml hv
  obtain ⟨rfl, hsz, hP, hK, hD0⟩ := hv
  have hx := B.exec
  have hb := B.bytes
  have hr := B.returns
  have hw9 := atoms_spec (ws := (wd yX1_madeUnknowns cX1_madeUnknowns 1 (some .int))) B.pre
  have hg := gw_hts hw9
  have hown : s.vm.findClass RX1 = some m.cls := findClass_of_methodNamed B.named
  have hlocks := B.notSynchronized
  subst hsz
  have hD := hD0.self (sz := s.heap.size)
  generalize hAe : va_A [(h0, .inr (1, [.ref n0, .ref x0, .ref j2, .ref j3, .ref j4, .ref j5, .int 0, .int 0, .int (-1), .int 0, .int 0]))] s.heap.size = A at hD ⊢
  have hA : ∀ q : Nat, s.heap.size ≤ q → A q := fun q h => by rw [← hAe]; exact Or.inr h
  have hS : va_S A s.heap s.heap [] := va_S.rf
  have hl := lv_entry ([.ref h0]) (n := 1) (Nat.le_of_ble_eq_true rfl)
  rw [lg_entry_eq]
  generalize (lg_sl ([.ref h0]) ++ List.replicate (1 - (lg_sl ([.ref h0])).length) Slot.unset).toArray = ls at hl ⊢
  have hl : lv_has ls 1 [(0, .ref h0)] := hl
  refine lv_aload_n hx hb dX1_madeUnknowns_0 rfl (lv_at hl 0 rfl) ?_
  refine va_get (D := (dC, dI)) (ci := 1) (v := .int 0) (C := RX1) (T := TX1) (N := 11) hx hb hg i_X1 hown hK hP 0 rfl rfl 9 (by decide) (hg _ k_30) (fun _ h9 => h9) rfl dX1_madeUnknowns_1 ?_
  have hP9 := hP.sub (ws' := []) [] rfl
  have hD9 := hD.sub (ws' := []) [] (by decide) rfl
  refine W.widen (k := 0) (n := 0) (Nat.le_of_ble_eq_true rfl) (Nat.le_of_ble_eq_true rfl) ?_
  exact W.iret (v := 0) hx hb hr (fun t ht hW => ⟨⟨0, (), rfl, rfl, by rw [ht]; exact hP9, hD9⟩, hS.F ht⟩) hS.2.2 dX1_madeUnknowns_4

set_option maxHeartbeats 4000000 in
set_option maxRecDepth 100000 in
/-- solvedUnknowns() -/
theorem c_X1_solvedUnknowns (l : Launch) (dC : Nat → ClassId) (dI : Nat → Nat → Nat) (cI cZ cL : ClassId) (h0 : Nat) (sz : Nat) (n0 x0 j2 j3 j4 j5 : Nat) : Met l yX1_solvedUnknowns (wd yX1_solvedUnknowns cX1_solvedUnknowns 1 (some .int)) ({ frames := 0, cells := 0, slots := 0, locals := 0 }) (va_Pc [.ref h0] (hp dC dI cI cZ cL sz [(h0, .inr (1, [.ref n0, .ref x0, .ref j2, .ref j3, .ref j4, .ref j5, .int 0, .int 0, .int (-1), .int 0, .int 0]))])) (va_Qi (fun (r : Int32) (_ : Unit) => r = 0) (fun (_ : Unit) t => va_P (dC, dI) vwCl [] t.heap ∧ va_D (va_A [(h0, .inr (1, [.ref n0, .ref x0, .ref j2, .ref j3, .ref j4, .ref j5, .int 0, .int 0, .int (-1), .int 0, .int 0]))] sz) []) (va_A [(h0, .inr (1, [.ref n0, .ref x0, .ref j2, .ref j3, .ref j4, .ref j5, .int 0, .int 0, .int (-1), .int 0, .int 0]))] sz)) 0 0 (va_A [(h0, .inr (1, [.ref n0, .ref x0, .ref j2, .ref j3, .ref j4, .ref j5, .int 0, .int 0, .int (-1), .int 0, .int 0]))] sz) := by
  refine Met.ofW (cc := cX1_solvedUnknowns) (maxL := 1) (ret := (some .int)) (by decide) rfl ?_
  intro p e s m args below meth c s₁ B hml hv
  obtain ⟨rfl, hsz, hP, hK, hD0⟩ := hv
  have hx := B.exec
  have hb := B.bytes
  have hr := B.returns
  have hw9 := atoms_spec (ws := (wd yX1_solvedUnknowns cX1_solvedUnknowns 1 (some .int))) B.pre
  have hg := gw_hts hw9
  have hown : s.vm.findClass RX1 = some m.cls := findClass_of_methodNamed B.named
  have hlocks := B.notSynchronized
  subst hsz
  have hD := hD0.self (sz := s.heap.size)
  generalize hAe : va_A [(h0, .inr (1, [.ref n0, .ref x0, .ref j2, .ref j3, .ref j4, .ref j5, .int 0, .int 0, .int (-1), .int 0, .int 0]))] s.heap.size = A at hD ⊢
  have hA : ∀ q : Nat, s.heap.size ≤ q → A q := fun q h => by rw [← hAe]; exact Or.inr h
  have hS : va_S A s.heap s.heap [] := va_S.rf
  have hl := lv_entry ([.ref h0]) (n := 1) (Nat.le_of_ble_eq_true rfl)
  rw [lg_entry_eq]
  generalize (lg_sl ([.ref h0]) ++ List.replicate (1 - (lg_sl ([.ref h0])).length) Slot.unset).toArray = ls at hl ⊢
  have hl : lv_has ls 1 [(0, .ref h0)] := hl
  refine lv_aload_n hx hb dX1_solvedUnknowns_0 rfl (lv_at hl 0 rfl) ?_
  refine va_get (D := (dC, dI)) (ci := 1) (v := .int 0) (C := RX1) (T := TX1) (N := 11) hx hb hg i_X1 hown hK hP 0 rfl rfl 10 (by decide) (hg _ k_31) (fun _ h9 => h9) rfl dX1_solvedUnknowns_1 ?_
  have hP9 := hP.sub (ws' := []) [] rfl
  have hD9 := hD.sub (ws' := []) [] (by decide) rfl
  refine W.widen (k := 0) (n := 0) (Nat.le_of_ble_eq_true rfl) (Nat.le_of_ble_eq_true rfl) ?_
  exact W.iret (v := 0) hx hb hr (fun t ht hW => ⟨⟨0, (), rfl, rfl, by rw [ht]; exact hP9, hD9⟩, hS.F ht⟩) hS.2.2 dX1_solvedUnknowns_4

set_option maxHeartbeats 4000000 in
set_option maxRecDepth 100000 in
/-- unknowns() of a new object -/
theorem c_X6_unknowns (l : Launch) (dC : Nat → ClassId) (dI : Nat → Nat → Nat) (cI cZ cL : ClassId) (h0 j0 : Nat) (sz : Nat) (n0 r0 p0 a1 x0 j2 j3 j4 j5 : Nat) : Met l yX6_unknowns (wd yX6_unknowns cX6_unknowns 1 (some .int)) ({ frames := 1, cells := 0, slots := 0, locals := 20 }) (va_Pc [.ref h0] (hp dC dI cI cZ cL sz [(h0, .inr (6, [.ref a1, .int 0, .int (-1), .ref n0, .ref r0, .ref j0, .ref p0])), (j0, .inr (1, [.ref n0, .ref x0, .ref j2, .ref j3, .ref j4, .ref j5, .int 0, .int 0, .int (-1), .int 0, .int 0]))])) (va_Qi (fun (r : Int32) (_ : Unit) => r = 0) (fun (_ : Unit) t => va_P (dC, dI) vwCl [] t.heap ∧ va_D (va_A [(h0, .inr (6, [.ref a1, .int 0, .int (-1), .ref n0, .ref r0, .ref j0, .ref p0])), (j0, .inr (1, [.ref n0, .ref x0, .ref j2, .ref j3, .ref j4, .ref j5, .int 0, .int 0, .int (-1), .int 0, .int 0]))] sz) []) (va_A [(h0, .inr (6, [.ref a1, .int 0, .int (-1), .ref n0, .ref r0, .ref j0, .ref p0])), (j0, .inr (1, [.ref n0, .ref x0, .ref j2, .ref j3, .ref j4, .ref j5, .int 0, .int 0, .int (-1), .int 0, .int 0]))] sz)) 0 0 (va_A [(h0, .inr (6, [.ref a1, .int 0, .int (-1), .ref n0, .ref r0, .ref j0, .ref p0])), (j0, .inr (1, [.ref n0, .ref x0, .ref j2, .ref j3, .ref j4, .ref j5, .int 0, .int 0, .int (-1), .int 0, .int 0]))] sz) := by
  refine Met.ofW (cc := cX6_unknowns) (maxL := 1) (ret := (some .int)) (by decide) rfl ?_
  intro p e s m args below meth c s₁ B hml hv
  obtain ⟨rfl, hsz, hP, hK, hD0⟩ := hv
  have hx := B.exec
  have hb := B.bytes
  have hr := B.returns
  have hw9 := atoms_spec (ws := (wd yX6_unknowns cX6_unknowns 1 (some .int))) B.pre
  have hg := gw_hts hw9
  have hown : s.vm.findClass RX6 = some m.cls := findClass_of_methodNamed B.named
  have hlocks := B.notSynchronized
  subst hsz
  have hD := hD0.self (sz := s.heap.size)
  generalize hAe : va_A [(h0, .inr (6, [.ref a1, .int 0, .int (-1), .ref n0, .ref r0, .ref j0, .ref p0])), (j0, .inr (1, [.ref n0, .ref x0, .ref j2, .ref j3, .ref j4, .ref j5, .int 0, .int 0, .int (-1), .int 0, .int 0]))] s.heap.size = A at hD ⊢
  have hA : ∀ q : Nat, s.heap.size ≤ q → A q := fun q h => by rw [← hAe]; exact Or.inr h
  have hS : va_S A s.heap s.heap [] := va_S.rf
  have hl := lv_entry ([.ref h0]) (n := 1) (Nat.le_of_ble_eq_true rfl)
  rw [lg_entry_eq]
  generalize (lg_sl ([.ref h0]) ++ List.replicate (1 - (lg_sl ([.ref h0])).length) Slot.unset).toArray = ls at hl ⊢
  have hl : lv_has ls 1 [(0, .ref h0)] := hl
  refine lv_aload_n hx hb dX6_unknowns_0 rfl (lv_at hl 0 rfl) ?_
  refine va_get (D := (dC, dI)) (ci := 6) (v := .ref j0) (C := RX6) (T := TX6) (N := 7) hx hb hg i_X6 hown hK hP 0 rfl rfl 5 (by decide) (hg _ k_90) (fun _ h9 => h9) rfl dX6_unknowns_1 ?_
  have hPc := hP.sub (ws' := [(j0, .inr (1, [.ref n0, .ref x0, .ref j2, .ref j3, .ref j4, .ref j5, .int 0, .int 0, .int (-1), .int 0, .int 0]))]) [1] rfl
  have hDc := hD.sub (ws' := [(j0, .inr (1, [.ref n0, .ref x0, .ref j2, .ref j3, .ref j4, .ref j5, .int 0, .int 0, .int (-1), .int 0, .int 0]))]) [1] (by decide) rfl
  have hFc := va_free (wc := [(j0, .inr (1, [.ref n0, .ref x0, .ref j2, .ref j3, .ref j4, .ref j5, .int 0, .int 0, .int (-1), .int 0, .int 0]))]) hD hS hA [1] rfl
  refine va_calli (va_runV (As := []) (rest := []) ⟨hx, hb, hml, hown, hg⟩ (c_X1_madeUnknowns l dC dI cI cZ cL j0 (Array.size _) n0 x0 j2 j3 j4 j5) (cwV 0 hg (gw_V k_203 k_204 k_205 k_87 g_yX1_madeUnknowns) rfl rfl rfl (by decide +kernel) ⟨(Nat.le_of_ble_eq_true rfl), (Nat.le_of_ble_eq_true rfl)⟩) ⟨hp_bl, va_recv hK hPc (ci := 1) (q0 := 0) rfl rfl, fun U hU hW => hp_ok hU hW hPc hK hDc⟩ rfl rfl hl.1 rfl (lv_room (Nat.le_of_ble_eq_true rfl)) dX6_unknowns_4 ⟨(Nat.le_of_ble_eq_true rfl), (Nat.le_of_ble_eq_true rfl)⟩) hS (fun q _ h => hFc q h) hFc (fun r9 u t H locs ht hvm hw hB hz1 hk1 hS => ?_)
  obtain ⟨hP1, hD1⟩ := hB
  rw [ht] at hP1
  obtain ⟨hP, hD⟩ := va_join (wr := [(h0, .inr (6, [.ref a1, .int 0, .int (-1), .ref n0, .ref r0, .ref j0, .ref p0]))]) (w1 := []) hP hD [1] [0] rfl rfl (by decide) (by decide) hk1 hFc hP1 hD1
  have hP : va_P (dC, dI) vwCl [(h0, .inr (6, [.ref a1, .int 0, .int (-1), .ref n0, .ref r0, .ref j0, .ref p0]))] H := hP
  have hD : va_D A [(h0, .inr (6, [.ref a1, .int 0, .int (-1), .ref n0, .ref r0, .ref j0, .ref p0]))] := hD
  refine W.widen (k := 0) (n := 0) (Nat.le_of_ble_eq_true rfl) (Nat.le_of_ble_eq_true rfl) ?_
  obtain rfl : r9 = 0 := hw
  have hP9 := hP.sub (ws' := []) [] rfl
  have hD9 := hD.sub (ws' := []) [] (by decide) rfl
  refine W.widen (k := 0) (n := 0) (Nat.le_of_ble_eq_true rfl) (Nat.le_of_ble_eq_true rfl) ?_
  exact W.iret (v := 0) hx hb hr (fun t ht hW => ⟨⟨0, (), rfl, rfl, by rw [ht]; exact hP9, hD9⟩, hS.F ht⟩) hS.2.2 dX6_unknowns_7

set_option maxHeartbeats 4000000 in
set_option maxRecDepth 100000 in
/-- solved() of a new object -/
theorem c_X6_solved (l : Launch) (dC : Nat → ClassId) (dI : Nat → Nat → Nat) (cI cZ cL : ClassId) (h0 j0 : Nat) (sz : Nat) (n0 r0 p0 a1 x0 j2 j3 j4 j5 : Nat) : Met l yX6_solved (wd yX6_solved cX6_solved 1 (some .int)) ({ frames := 1, cells := 0, slots := 0, locals := 20 }) (va_Pc [.ref h0] (hp dC dI cI cZ cL sz [(h0, .inr (6, [.ref a1, .int 0, .int (-1), .ref n0, .ref r0, .ref j0, .ref p0])), (j0, .inr (1, [.ref n0, .ref x0, .ref j2, .ref j3, .ref j4, .ref j5, .int 0, .int 0, .int (-1), .int 0, .int 0]))])) (va_Qi (fun (r : Int32) (_ : Unit) => r = 0) (fun (_ : Unit) t => va_P (dC, dI) vwCl [] t.heap ∧ va_D (va_A [(h0, .inr (6, [.ref a1, .int 0, .int (-1), .ref n0, .ref r0, .ref j0, .ref p0])), (j0, .inr (1, [.ref n0, .ref x0, .ref j2, .ref j3, .ref j4, .ref j5, .int 0, .int 0, .int (-1), .int 0, .int 0]))] sz) []) (va_A [(h0, .inr (6, [.ref a1, .int 0, .int (-1), .ref n0, .ref r0, .ref j0, .ref p0])), (j0, .inr (1, [.ref n0, .ref x0, .ref j2, .ref j3, .ref j4, .ref j5, .int 0, .int 0, .int (-1), .int 0, .int 0]))] sz)) 0 0 (va_A [(h0, .inr (6, [.ref a1, .int 0, .int (-1), .ref n0, .ref r0, .ref j0, .ref p0])), (j0, .inr (1, [.ref n0, .ref x0, .ref j2, .ref j3, .ref j4, .ref j5, .int 0, .int 0, .int (-1), .int 0, .int 0]))] sz) := by
  refine Met.ofW (cc := cX6_solved) (maxL := 1) (ret := (some .int)) (by decide) rfl ?_
  intro p e s m args below meth c s₁ B hml hv
  obtain ⟨rfl, hsz, hP, hK, hD0⟩ := hv
  have hx := B.exec
  have hb := B.bytes
  have hr := B.returns
  have hw9 := atoms_spec (ws := (wd yX6_solved cX6_solved 1 (some .int))) B.pre
  have hg := gw_hts hw9
  have hown : s.vm.findClass RX6 = some m.cls := findClass_of_methodNamed B.named
  have hlocks := B.notSynchronized
  subst hsz
  have hD := hD0.self (sz := s.heap.size)
  generalize hAe : va_A [(h0, .inr (6, [.ref a1, .int 0, .int (-1), .ref n0, .ref r0, .ref j0, .ref p0])), (j0, .inr (1, [.ref n0, .ref x0, .ref j2, .ref j3, .ref j4, .ref j5, .int 0, .int 0, .int (-1), .int 0, .int 0]))] s.heap.size = A at hD ⊢
  have hA : ∀ q : Nat, s.heap.size ≤ q → A q := fun q h => by rw [← hAe]; exact Or.inr h
  have hS : va_S A s.heap s.heap [] := va_S.rf
  have hl := lv_entry ([.ref h0]) (n := 1) (Nat.le_of_ble_eq_true rfl)
  rw [lg_entry_eq]
  generalize (lg_sl ([.ref h0]) ++ List.replicate (1 - (lg_sl ([.ref h0])).length) Slot.unset).toArray = ls at hl ⊢
  have hl : lv_has ls 1 [(0, .ref h0)] := hl
  refine lv_aload_n hx hb dX6_solved_0 rfl (lv_at hl 0 rfl) ?_
  refine va_get (D := (dC, dI)) (ci := 6) (v := .ref j0) (C := RX6) (T := TX6) (N := 7) hx hb hg i_X6 hown hK hP 0 rfl rfl 5 (by decide) (hg _ k_90) (fun _ h9 => h9) rfl dX6_solved_1 ?_
  have hPc := hP.sub (ws' := [(j0, .inr (1, [.ref n0, .ref x0, .ref j2, .ref j3, .ref j4, .ref j5, .int 0, .int 0, .int (-1), .int 0, .int 0]))]) [1] rfl
  have hDc := hD.sub (ws' := [(j0, .inr (1, [.ref n0, .ref x0, .ref j2, .ref j3, .ref j4, .ref j5, .int 0, .int 0, .int (-1), .int 0, .int 0]))]) [1] (by decide) rfl
  have hFc := va_free (wc := [(j0, .inr (1, [.ref n0, .ref x0, .ref j2, .ref j3, .ref j4, .ref j5, .int 0, .int 0, .int (-1), .int 0, .int 0]))]) hD hS hA [1] rfl
  refine va_calli (va_runV (As := []) (rest := []) ⟨hx, hb, hml, hown, hg⟩ (c_X1_solvedUnknowns l dC dI cI cZ cL j0 (Array.size _) n0 x0 j2 j3 j4 j5) (cwV 0 hg (gw_V k_206 k_207 k_208 k_87 g_yX1_solvedUnknowns) rfl rfl rfl (by decide +kernel) ⟨(Nat.le_of_ble_eq_true rfl), (Nat.le_of_ble_eq_true rfl)⟩) ⟨hp_bl, va_recv hK hPc (ci := 1) (q0 := 0) rfl rfl, fun U hU hW => hp_ok hU hW hPc hK hDc⟩ rfl rfl hl.1 rfl (lv_room (Nat.le_of_ble_eq_true rfl)) dX6_solved_4 ⟨(Nat.le_of_ble_eq_true rfl), (Nat.le_of_ble_eq_true rfl)⟩) hS (fun q _ h => hFc q h) hFc (fun r9 u t H locs ht hvm hw hB hz1 hk1 hS => ?_)
  obtain ⟨hP1, hD1⟩ := hB
  rw [ht] at hP1
  obtain ⟨hP, hD⟩ := va_join (wr := [(h0, .inr (6, [.ref a1, .int 0, .int (-1), .ref n0, .ref r0, .ref j0, .ref p0]))]) (w1 := []) hP hD [1] [0] rfl rfl (by decide) (by decide) hk1 hFc hP1 hD1
  have hP : va_P (dC, dI) vwCl [(h0, .inr (6, [.ref a1, .int 0, .int (-1), .ref n0, .ref r0, .ref j0, .ref p0]))] H := hP
  have hD : va_D A [(h0, .inr (6, [.ref a1, .int 0, .int (-1), .ref n0, .ref r0, .ref j0, .ref p0]))] := hD
  refine W.widen (k := 0) (n := 0) (Nat.le_of_ble_eq_true rfl) (Nat.le_of_ble_eq_true rfl) ?_
  obtain rfl : r9 = 0 := hw
  have hP9 := hP.sub (ws' := []) [] rfl
  have hD9 := hD.sub (ws' := []) [] (by decide) rfl
  refine W.widen (k := 0) (n := 0) (Nat.le_of_ble_eq_true rfl) (Nat.le_of_ble_eq_true rfl) ?_
  exact W.iret (v := 0) hx hb hr (fun t ht hW => ⟨⟨0, (), rfl, rfl, by rw [ht]; exact hP9, hD9⟩, hS.F ht⟩) hS.2.2 dX6_solved_7
end
section
set_option maxHeartbeats 4000000 in
set_option maxRecDepth 100000 in
/-- thrown() -/
theorem c_X7_thrown (l : Launch) (dC : Nat → ClassId) (dI : Nat → Nat → Nat) (cI cZ cL : ClassId) (h0 : Nat) (sz : Nat) (k : Int32) (tl : List Value) : Met l yX7_thrown (wd yX7_thrown cX7_thrown 1 (some .int)) ({ frames := 0, cells := 0, slots := 0, locals := 0 }) (va_Pc [.ref h0] (hp dC dI cI cZ cL sz [(h0, .inr (7, .int k :: tl))])) (va_Qi (fun (r : Int32) (_ : Unit) => r = k) (fun (_ : Unit) t => va_P (dC, dI) vwCl [] t.heap ∧ va_D (va_A [(h0, .inr (7, .int k :: tl))] sz) []) (va_A [(h0, .inr (7, .int k :: tl))] sz)) 0 0 (va_A [(h0, .inr (7, .int k :: tl))] sz) := by
  refine Met.ofW (cc := cX7_thrown) (maxL := 1) (ret := (some .int)) (by decide) rfl ?_
  intro p e s m args below meth c s₁ B hml hv
  obtain ⟨rfl, hsz, hP, hK, hD0⟩ := hv
  have hx := B.exec
  have hb := B.bytes
  have hr := B.returns
  have hw9 := atoms_spec (ws := (wd yX7_thrown cX7_thrown 1 (some .int))) B.pre
  have hg := gw_hts hw9
  have hown : s.vm.findClass RX7 = some m.cls := findClass_of_methodNamed B.named
  have hlocks := B.notSynchronized
  subst hsz
  have hD := hD0.self (sz := s.heap.size)
  generalize hAe : va_A [(h0, .inr (7, .int k :: tl))] s.heap.size = A at hD ⊢
  have hA : ∀ q : Nat, s.heap.size ≤ q → A q := fun q h => by rw [← hAe]; exact Or.inr h
  have hS : va_S A s.heap s.heap [] := va_S.rf
  have hl := lv_entry ([.ref h0]) (n := 1) (Nat.le_of_ble_eq_true rfl)
  rw [lg_entry_eq]
  generalize (lg_sl ([.ref h0]) ++ List.replicate (1 - (lg_sl ([.ref h0])).length) Slot.unset).toArray = ls at hl ⊢
  have hl : lv_has ls 1 [(0, .ref h0)] := hl
  refine lv_aload_n hx hb dX7_thrown_0 rfl (lv_at hl 0 rfl) ?_
  refine va_get (D := (dC, dI)) (ci := 7) (v := .int k) (C := RX7) (T := TX7) (N := 39) hx hb hg i_X7 hown hK hP 0 rfl rfl 0 (by decide) (hg _ k_226) (fun _ h9 => h9) rfl dX7_thrown_1 ?_
  have hP9 := hP.sub (ws' := []) [] rfl
  have hD9 := hD.sub (ws' := []) [] (by decide) rfl
  refine W.widen (k := 0) (n := 0) (Nat.le_of_ble_eq_true rfl) (Nat.le_of_ble_eq_true rfl) ?_
  exact W.iret (v := k) hx hb hr (fun t ht hW => ⟨⟨k, (), rfl, rfl, by rw [ht]; exact hP9, hD9⟩, hS.F ht⟩) hS.2.2 dX7_thrown_4

set_option maxHeartbeats 4000000 in
set_option maxRecDepth 100000 in
/-- throwing(true, false) -/
theorem c_thrA (l : Launch) (dC : Nat → ClassId) (dI : Nat → Nat → Nat) (cI cZ cL : ClassId) (h0 : Nat) (sz : Nat) (tl : List Value) : Met l yX7_throwing (wd yX7_throwing cX7_throwing 3 (some .boolean)) ({ frames := 0, cells := 0, slots := 0, locals := 0 }) (va_Pc [.ref h0, .int 1, .int 0] (hp dC dI cI cZ cL sz [(h0, .inr (7, .int 0 :: tl))])) (va_Qi (fun (r : Int32) (_ : Unit) => r = 1) (fun (_ : Unit) t => va_P (dC, dI) vwCl [(h0, .inr (7, .int 1 :: tl))] t.heap ∧ va_D (va_A [(h0, .inr (7, .int 0 :: tl))] sz) [(h0, .inr (7, .int 1 :: tl))]) (va_A [(h0, .inr (7, .int 0 :: tl))] sz)) 0 0 (va_A [(h0, .inr (7, .int 0 :: tl))] sz) := by
  refine Met.ofW (cc := cX7_throwing) (maxL := 3) (ret := (some .boolean)) (by decide) rfl ?_
  intro p e s m args below meth c s₁ B hml hv
  obtain ⟨rfl, hsz, hP, hK, hD0⟩ := hv
  have hx := B.exec
  have hb := B.bytes
  have hr := B.returns
  have hw9 := atoms_spec (ws := (wd yX7_throwing cX7_throwing 3 (some .boolean))) B.pre
  have hg := gw_hts hw9
  have hown : s.vm.findClass RX7 = some m.cls := findClass_of_methodNamed B.named
  have hlocks := B.notSynchronized
  subst hsz
  have hD := hD0.self (sz := s.heap.size)
  generalize hAe : va_A [(h0, .inr (7, .int 0 :: tl))] s.heap.size = A at hD ⊢
  have hA : ∀ q : Nat, s.heap.size ≤ q → A q := fun q h => by rw [← hAe]; exact Or.inr h
  have hS : va_S A s.heap s.heap [] := va_S.rf
  have hl := lv_entry ([.ref h0, .int 1, .int 0]) (n := 3) (Nat.le_of_ble_eq_true rfl)
  rw [lg_entry_eq]
  generalize (lg_sl ([.ref h0, .int 1, .int 0]) ++ List.replicate (3 - (lg_sl ([.ref h0, .int 1, .int 0])).length) Slot.unset).toArray = ls at hl ⊢
  have hl : lv_has ls 3 [(0, .ref h0), (1, .int 1), (2, .int 0)] := hl
  refine lv_aload_n hx hb dX7_throwing_0 rfl (lv_at hl 0 rfl) ?_
  refine lv_iload_n hx hb dX7_throwing_1 rfl (lv_at hl 1 rfl) ?_
  refine lv_if_eq (tgt := 9) hx hb dX7_throwing_2 (by decide) (fun c9 => absurd c9 (by decide)) (fun _ => ?_)
  refine lv_iconst (v := 1) hx hb dX7_throwing_5 (by decide) ?_
  refine lv_goto (tgt := 18) hx hb dX7_throwing_6 (by decide) ?_
  refine va_put (D := (dC, dI)) (ci := 7) (v := .int 1) (ty := .int) (C := RX7) (T := TX7) (N := 39) hx hb hg i_X7 tyX7 tyX7_ok nmX7 hown hK hP hD hS 0 rfl rfl 0 (by decide) (hg _ k_226) (fun _ h9 => h9) rfl (by decide +kernel) rfl rfl (by simp) dX7_throwing_18 (fun H locs hP hD hS => ?_)
  have hP : va_P (dC, dI) vwCl [(h0, .inr (7, .int 1 :: tl))] H := hP
  have hD : va_D A [(h0, .inr (7, .int 1 :: tl))] := hD
  refine lv_aload_n hx hb dX7_throwing_21 rfl (lv_at hl 0 rfl) ?_
  refine va_get (D := (dC, dI)) (ci := 7) (v := .int 1) (C := RX7) (T := TX7) (N := 39) hx hb hg i_X7 hown hK hP 0 rfl rfl 0 (by decide) (hg _ k_226) (fun _ h9 => h9) rfl dX7_throwing_22 ?_
  refine lv_if_le (tgt := 32) hx hb dX7_throwing_25 (by decide) (fun c9 => absurd c9 (by decide)) (fun _ => ?_)
  refine lv_iconst (v := 1) hx hb dX7_throwing_28 (by decide) ?_
  refine lv_goto (tgt := 33) hx hb dX7_throwing_29 (by decide) ?_
  have hP9 := hP.sub (ws' := [(h0, .inr (7, .int 1 :: tl))]) [0] rfl
  have hD9 := hD.sub (ws' := [(h0, .inr (7, .int 1 :: tl))]) [0] (by decide) rfl
  refine W.widen (k := 0) (n := 0) (Nat.le_of_ble_eq_true rfl) (Nat.le_of_ble_eq_true rfl) ?_
  exact W.zret (ty := .boolean) (v := 1) hx hb hr (by decide) (fun t ht hW => ⟨⟨1, (), rfl, rfl, by rw [ht]; exact hP9, hD9⟩, hS.F ht⟩) hS.2.2 dX7_throwing_33

set_option maxHeartbeats 4000000 in
set_option maxRecDepth 100000 in
/-- throwing(false, false) -/
theorem c_thrB (l : Launch) (dC : Nat → ClassId) (dI : Nat → Nat → Nat) (cI cZ cL : ClassId) (h0 : Nat) (sz : Nat) (tl : List Value) : Met l yX7_throwing (wd yX7_throwing cX7_throwing 3 (some .boolean)) ({ frames := 0, cells := 0, slots := 0, locals := 0 }) (va_Pc [.ref h0, .int 0, .int 0] (hp dC dI cI cZ cL sz [(h0, .inr (7, .int 0 :: tl))])) (va_Qi (fun (r : Int32) (_ : Unit) => r = 0) (fun (_ : Unit) t => va_P (dC, dI) vwCl [(h0, .inr (7, .int 0 :: tl))] t.heap ∧ va_D (va_A [(h0, .inr (7, .int 0 :: tl))] sz) [(h0, .inr (7, .int 0 :: tl))]) (va_A [(h0, .inr (7, .int 0 :: tl))] sz)) 0 0 (va_A [(h0, .inr (7, .int 0 :: tl))] sz) := by
  refine Met.ofW (cc := cX7_throwing) (maxL := 3) (ret := (some .boolean)) (by decide) rfl ?_
  intro p e s m args below meth c s₁ B hml hv
  obtain ⟨rfl, hsz, hP, hK, hD0⟩ := hv
  have hx := B.exec
  have hb := B.bytes
  have hr := B.returns
  have hw9 := atoms_spec (ws := (wd yX7_throwing cX7_throwing 3 (some .boolean))) B.pre
  have hg := gw_hts hw9
  have hown : s.vm.findClass RX7 = some m.cls := findClass_of_methodNamed B.named
  have hlocks := B.notSynchronized
  subst hsz
  have hD := hD0.self (sz := s.heap.size)
  generalize hAe : va_A [(h0, .inr (7, .int 0 :: tl))] s.heap.size = A at hD ⊢
  have hA : ∀ q : Nat, s.heap.size ≤ q → A q := fun q h => by rw [← hAe]; exact Or.inr h
  have hS : va_S A s.heap s.heap [] := va_S.rf
  have hl := lv_entry ([.ref h0, .int 0, .int 0]) (n := 3) (Nat.le_of_ble_eq_true rfl)
  rw [lg_entry_eq]
  generalize (lg_sl ([.ref h0, .int 0, .int 0]) ++ List.replicate (3 - (lg_sl ([.ref h0, .int 0, .int 0])).length) Slot.unset).toArray = ls at hl ⊢
  have hl : lv_has ls 3 [(0, .ref h0), (1, .int 0), (2, .int 0)] := hl
  refine lv_aload_n hx hb dX7_throwing_0 rfl (lv_at hl 0 rfl) ?_
  refine lv_iload_n hx hb dX7_throwing_1 rfl (lv_at hl 1 rfl) ?_
  refine lv_if_eq (tgt := 9) hx hb dX7_throwing_2 (by decide) (fun _ => ?_) (fun c9 => absurd (by decide) c9)
  refine lv_iload_n hx hb dX7_throwing_9 rfl (lv_at hl 2 rfl) ?_
  refine lv_if_eq (tgt := 17) hx hb dX7_throwing_10 (by decide) (fun _ => ?_) (fun c9 => absurd (by decide) c9)
  refine lv_iconst (v := 0) hx hb dX7_throwing_17 (by decide) ?_
  refine va_put (D := (dC, dI)) (ci := 7) (v := .int 0) (ty := .int) (C := RX7) (T := TX7) (N := 39) hx hb hg i_X7 tyX7 tyX7_ok nmX7 hown hK hP hD hS 0 rfl rfl 0 (by decide) (hg _ k_226) (fun _ h9 => h9) rfl (by decide +kernel) rfl rfl (by simp) dX7_throwing_18 (fun H locs hP hD hS => ?_)
  have hP : va_P (dC, dI) vwCl [(h0, .inr (7, .int 0 :: tl))] H := hP
  have hD : va_D A [(h0, .inr (7, .int 0 :: tl))] := hD
  refine lv_aload_n hx hb dX7_throwing_21 rfl (lv_at hl 0 rfl) ?_
  refine va_get (D := (dC, dI)) (ci := 7) (v := .int 0) (C := RX7) (T := TX7) (N := 39) hx hb hg i_X7 hown hK hP 0 rfl rfl 0 (by decide) (hg _ k_226) (fun _ h9 => h9) rfl dX7_throwing_22 ?_
  refine lv_if_le (tgt := 32) hx hb dX7_throwing_25 (by decide) (fun _ => ?_) (fun c9 => absurd (by decide) c9)
  refine lv_iconst (v := 0) hx hb dX7_throwing_32 (by decide) ?_
  have hP9 := hP.sub (ws' := [(h0, .inr (7, .int 0 :: tl))]) [0] rfl
  have hD9 := hD.sub (ws' := [(h0, .inr (7, .int 0 :: tl))]) [0] (by decide) rfl
  refine W.widen (k := 0) (n := 0) (Nat.le_of_ble_eq_true rfl) (Nat.le_of_ble_eq_true rfl) ?_
  exact W.zret (ty := .boolean) (v := 0) hx hb hr (by decide) (fun t ht hW => ⟨⟨0, (), rfl, rfl, by rw [ht]; exact hP9, hD9⟩, hS.F ht⟩) hS.2.2 dX7_throwing_33

set_option maxHeartbeats 4000000 in
set_option maxRecDepth 100000 in
/-- see() at the end of an empty text -/
theorem c_X7_see (l : Launch) (dC : Nat → ClassId) (dI : Nat → Nat → Nat) (cI cZ cL : ClassId) (h0 : Nat) (sz : Nat) (m1 m2 m3 m4 m5 m6 m7 m8 m9 m10 m11 m12 m13 m14 m15 m16 m17 m18 m19 m20 m21 : Nat) : Met l yX7_see (wd yX7_see cX7_see 1 (some .int)) ({ frames := 0, cells := 0, slots := 0, locals := 0 }) (va_Pc [.ref h0] (hp dC dI cI cZ cL sz [(h0, .inr (7, [.int 0, .ref m1, .int 0, .int 0, .int 0, .int 0, .int (-1), .int 0, .int 0, .ref m2, .ref m3, .ref m4, .int 0, .ref m5, .ref m6, .ref m7, .int 0, .ref m8, .ref m9, .ref m10, .int 1, .int 0, .ref m11, .ref m12, .ref m13, .int 0, .int 0, .ref m14, .int 0, .ref m15, .ref m16, .ref m17, .int 0, .int 0, .ref m18, .ref m19, .ref m20, .int 0, .ref m21]))])) (va_Qi (fun (r : Int32) (_ : Unit) => r = -1) (fun (_ : Unit) t => va_P (dC, dI) vwCl [(h0, .inr (7, [.int 0, .ref m1, .int 0, .int 0, .int 0, .int 0, .int (-1), .int 0, .int 0, .ref m2, .ref m3, .ref m4, .int 0, .ref m5, .ref m6, .ref m7, .int 0, .ref m8, .ref m9, .ref m10, .int 1, .int 0, .ref m11, .ref m12, .ref m13, .int 0, .int 0, .ref m14, .int 0, .ref m15, .ref m16, .ref m17, .int 0, .int 0, .ref m18, .ref m19, .ref m20, .int 0, .ref m21]))] t.heap ∧ va_D (va_A [(h0, .inr (7, [.int 0, .ref m1, .int 0, .int 0, .int 0, .int 0, .int (-1), .int 0, .int 0, .ref m2, .ref m3, .ref m4, .int 0, .ref m5, .ref m6, .ref m7, .int 0, .ref m8, .ref m9, .ref m10, .int 1, .int 0, .ref m11, .ref m12, .ref m13, .int 0, .int 0, .ref m14, .int 0, .ref m15, .ref m16, .ref m17, .int 0, .int 0, .ref m18, .ref m19, .ref m20, .int 0, .ref m21]))] sz) [(h0, .inr (7, [.int 0, .ref m1, .int 0, .int 0, .int 0, .int 0, .int (-1), .int 0, .int 0, .ref m2, .ref m3, .ref m4, .int 0, .ref m5, .ref m6, .ref m7, .int 0, .ref m8, .ref m9, .ref m10, .int 1, .int 0, .ref m11, .ref m12, .ref m13, .int 0, .int 0, .ref m14, .int 0, .ref m15, .ref m16, .ref m17, .int 0, .int 0, .ref m18, .ref m19, .ref m20, .int 0, .ref m21]))]) (va_A [(h0, .inr (7, [.int 0, .ref m1, .int 0, .int 0, .int 0, .int 0, .int (-1), .int 0, .int 0, .ref m2, .ref m3, .ref m4, .int 0, .ref m5, .ref m6, .ref m7, .int 0, .ref m8, .ref m9, .ref m10, .int 1, .int 0, .ref m11, .ref m12, .ref m13, .int 0, .int 0, .ref m14, .int 0, .ref m15, .ref m16, .ref m17, .int 0, .int 0, .ref m18, .ref m19, .ref m20, .int 0, .ref m21]))] sz)) 0 0 (va_A [(h0, .inr (7, [.int 0, .ref m1, .int 0, .int 0, .int 0, .int 0, .int (-1), .int 0, .int 0, .ref m2, .ref m3, .ref m4, .int 0, .ref m5, .ref m6, .ref m7, .int 0, .ref m8, .ref m9, .ref m10, .int 1, .int 0, .ref m11, .ref m12, .ref m13, .int 0, .int 0, .ref m14, .int 0, .ref m15, .ref m16, .ref m17, .int 0, .int 0, .ref m18, .ref m19, .ref m20, .int 0, .ref m21]))] sz) := by
  refine Met.ofW (cc := cX7_see) (maxL := 1) (ret := (some .int)) (by decide) rfl ?_
  intro p e s m args below meth c s₁ B hml hv
  obtain ⟨rfl, hsz, hP, hK, hD0⟩ := hv
  have hx := B.exec
  have hb := B.bytes
  have hr := B.returns
  have hw9 := atoms_spec (ws := (wd yX7_see cX7_see 1 (some .int))) B.pre
  have hg := gw_hts hw9
  have hown : s.vm.findClass RX7 = some m.cls := findClass_of_methodNamed B.named
  have hlocks := B.notSynchronized
  subst hsz
  have hD := hD0.self (sz := s.heap.size)
  generalize hAe : va_A [(h0, .inr (7, [.int 0, .ref m1, .int 0, .int 0, .int 0, .int 0, .int (-1), .int 0, .int 0, .ref m2, .ref m3, .ref m4, .int 0, .ref m5, .ref m6, .ref m7, .int 0, .ref m8, .ref m9, .ref m10, .int 1, .int 0, .ref m11, .ref m12, .ref m13, .int 0, .int 0, .ref m14, .int 0, .ref m15, .ref m16, .ref m17, .int 0, .int 0, .ref m18, .ref m19, .ref m20, .int 0, .ref m21]))] s.heap.size = A at hD ⊢
  have hA : ∀ q : Nat, s.heap.size ≤ q → A q := fun q h => by rw [← hAe]; exact Or.inr h
  have hS : va_S A s.heap s.heap [] := va_S.rf
  have hl := lv_entry ([.ref h0]) (n := 1) (Nat.le_of_ble_eq_true rfl)
  rw [lg_entry_eq]
  generalize (lg_sl ([.ref h0]) ++ List.replicate (1 - (lg_sl ([.ref h0])).length) Slot.unset).toArray = ls at hl ⊢
  have hl : lv_has ls 1 [(0, .ref h0)] := hl
  refine lv_aload_n hx hb dX7_see_0 rfl (lv_at hl 0 rfl) ?_
  refine va_get (D := (dC, dI)) (ci := 7) (v := .int 0) (C := RX7) (T := TX7) (N := 39) hx hb hg i_X7 hown hK hP 0 rfl rfl 4 (by decide) (hg _ k_227) (fun _ h9 => h9) rfl dX7_see_1 ?_
  refine lv_aload_n hx hb dX7_see_4 rfl (lv_at hl 0 rfl) ?_
  refine va_get (D := (dC, dI)) (ci := 7) (v := .int 0) (C := RX7) (T := TX7) (N := 39) hx hb hg i_X7 hown hK hP 0 rfl rfl 3 (by decide) (hg _ k_228) (fun _ h9 => h9) rfl dX7_see_5 ?_
  refine lv_icmp_ge (tgt := 38) hx hb dX7_see_8 (by decide) (fun _ => ?_) (fun c9 => absurd (by decide) c9)
  refine lv_aload_n hx hb dX7_see_38 rfl (lv_at hl 0 rfl) ?_
  refine va_get (D := (dC, dI)) (ci := 7) (v := .int 0) (C := RX7) (T := TX7) (N := 39) hx hb hg i_X7 hown hK hP 0 rfl rfl 4 (by decide) (hg _ k_227) (fun _ h9 => h9) rfl dX7_see_39 ?_
  refine lv_aload_n hx hb dX7_see_42 rfl (lv_at hl 0 rfl) ?_
  refine va_get (D := (dC, dI)) (ci := 7) (v := .int 0) (C := RX7) (T := TX7) (N := 39) hx hb hg i_X7 hown hK hP 0 rfl rfl 3 (by decide) (hg _ k_228) (fun _ h9 => h9) rfl dX7_see_43 ?_
  refine lv_icmp_ge (tgt := 61) hx hb dX7_see_46 (by decide) (fun _ => ?_) (fun c9 => absurd (by decide) c9)
  refine lv_iconst (v := (-1)) hx hb dX7_see_61 (by decide) ?_
  have hP9 := hP.sub (ws' := [(h0, .inr (7, [.int 0, .ref m1, .int 0, .int 0, .int 0, .int 0, .int (-1), .int 0, .int 0, .ref m2, .ref m3, .ref m4, .int 0, .ref m5, .ref m6, .ref m7, .int 0, .ref m8, .ref m9, .ref m10, .int 1, .int 0, .ref m11, .ref m12, .ref m13, .int 0, .int 0, .ref m14, .int 0, .ref m15, .ref m16, .ref m17, .int 0, .int 0, .ref m18, .ref m19, .ref m20, .int 0, .ref m21]))]) [0] rfl
  have hD9 := hD.sub (ws' := [(h0, .inr (7, [.int 0, .ref m1, .int 0, .int 0, .int 0, .int 0, .int (-1), .int 0, .int 0, .ref m2, .ref m3, .ref m4, .int 0, .ref m5, .ref m6, .ref m7, .int 0, .ref m8, .ref m9, .ref m10, .int 1, .int 0, .ref m11, .ref m12, .ref m13, .int 0, .int 0, .ref m14, .int 0, .ref m15, .ref m16, .ref m17, .int 0, .int 0, .ref m18, .ref m19, .ref m20, .int 0, .ref m21]))]) [0] (by decide) rfl
  refine W.widen (k := 0) (n := 0) (Nat.le_of_ble_eq_true rfl) (Nat.le_of_ble_eq_true rfl) ?_
  exact W.iret (v := (-1)) hx hb hr (fun t ht hW => ⟨⟨(-1), (), rfl, rfl, by rw [ht]; exact hP9, hD9⟩, hS.F ht⟩) hS.2.2 dX7_see_62

set_option maxHeartbeats 4000000 in
set_option maxRecDepth 100000 in
/-- fail() at 0 -/
theorem c_X7_fail (l : Launch) (dC : Nat → ClassId) (dI : Nat → Nat → Nat) (cI cZ cL : ClassId) (h0 : Nat) (sz : Nat) (m1 m2 m3 m4 m5 m6 m7 m8 m9 m10 m11 m12 m13 m14 m15 m16 m17 m18 m19 m20 m21 : Nat) : Met l yX7_fail (wd yX7_fail cX7_fail 1 none) ({ frames := 0, cells := 0, slots := 0, locals := 0 }) (va_Pc [.ref h0] (hp dC dI cI cZ cL sz [(h0, .inr (7, [.int 0, .ref m1, .int 0, .int 0, .int 0, .int 0, .int (-1), .int 0, .int 0, .ref m2, .ref m3, .ref m4, .int 0, .ref m5, .ref m6, .ref m7, .int 0, .ref m8, .ref m9, .ref m10, .int 1, .int 0, .ref m11, .ref m12, .ref m13, .int 0, .int 0, .ref m14, .int 0, .ref m15, .ref m16, .ref m17, .int 0, .int 0, .ref m18, .ref m19, .ref m20, .int 0, .ref m21]))])) (va_Qv (fun (_ : Unit) => True) (fun (_ : Unit) t => va_P (dC, dI) vwCl [(h0, .inr (7, [.int 0, .ref m1, .int 0, .int 0, .int 0, .int 1, .int 0, .int 0, .int 0, .ref m2, .ref m3, .ref m4, .int 0, .ref m5, .ref m6, .ref m7, .int 0, .ref m8, .ref m9, .ref m10, .int 1, .int 0, .ref m11, .ref m12, .ref m13, .int 0, .int 0, .ref m14, .int 0, .ref m15, .ref m16, .ref m17, .int 0, .int 0, .ref m18, .ref m19, .ref m20, .int 0, .ref m21]))] t.heap ∧ va_D (va_A [(h0, .inr (7, [.int 0, .ref m1, .int 0, .int 0, .int 0, .int 0, .int (-1), .int 0, .int 0, .ref m2, .ref m3, .ref m4, .int 0, .ref m5, .ref m6, .ref m7, .int 0, .ref m8, .ref m9, .ref m10, .int 1, .int 0, .ref m11, .ref m12, .ref m13, .int 0, .int 0, .ref m14, .int 0, .ref m15, .ref m16, .ref m17, .int 0, .int 0, .ref m18, .ref m19, .ref m20, .int 0, .ref m21]))] sz) [(h0, .inr (7, [.int 0, .ref m1, .int 0, .int 0, .int 0, .int 1, .int 0, .int 0, .int 0, .ref m2, .ref m3, .ref m4, .int 0, .ref m5, .ref m6, .ref m7, .int 0, .ref m8, .ref m9, .ref m10, .int 1, .int 0, .ref m11, .ref m12, .ref m13, .int 0, .int 0, .ref m14, .int 0, .ref m15, .ref m16, .ref m17, .int 0, .int 0, .ref m18, .ref m19, .ref m20, .int 0, .ref m21]))]) (va_A [(h0, .inr (7, [.int 0, .ref m1, .int 0, .int 0, .int 0, .int 0, .int (-1), .int 0, .int 0, .ref m2, .ref m3, .ref m4, .int 0, .ref m5, .ref m6, .ref m7, .int 0, .ref m8, .ref m9, .ref m10, .int 1, .int 0, .ref m11, .ref m12, .ref m13, .int 0, .int 0, .ref m14, .int 0, .ref m15, .ref m16, .ref m17, .int 0, .int 0, .ref m18, .ref m19, .ref m20, .int 0, .ref m21]))] sz)) 0 0 (va_A [(h0, .inr (7, [.int 0, .ref m1, .int 0, .int 0, .int 0, .int 0, .int (-1), .int 0, .int 0, .ref m2, .ref m3, .ref m4, .int 0, .ref m5, .ref m6, .ref m7, .int 0, .ref m8, .ref m9, .ref m10, .int 1, .int 0, .ref m11, .ref m12, .ref m13, .int 0, .int 0, .ref m14, .int 0, .ref m15, .ref m16, .ref m17, .int 0, .int 0, .ref m18, .ref m19, .ref m20, .int 0, .ref m21]))] sz) := by
  refine Met.ofW (cc := cX7_fail) (maxL := 1) (ret := none) (by decide) rfl ?_
  intro p e s m args below meth c s₁ B hml hv
  obtain ⟨rfl, hsz, hP, hK, hD0⟩ := hv
  have hx := B.exec
  have hb := B.bytes
  have hr := B.returns
  have hw9 := atoms_spec (ws := (wd yX7_fail cX7_fail 1 none)) B.pre
  have hg := gw_hts hw9
  have hown : s.vm.findClass RX7 = some m.cls := findClass_of_methodNamed B.named
  have hlocks := B.notSynchronized
  subst hsz
  have hD := hD0.self (sz := s.heap.size)
  generalize hAe : va_A [(h0, .inr (7, [.int 0, .ref m1, .int 0, .int 0, .int 0, .int 0, .int (-1), .int 0, .int 0, .ref m2, .ref m3, .ref m4, .int 0, .ref m5, .ref m6, .ref m7, .int 0, .ref m8, .ref m9, .ref m10, .int 1, .int 0, .ref m11, .ref m12, .ref m13, .int 0, .int 0, .ref m14, .int 0, .ref m15, .ref m16, .ref m17, .int 0, .int 0, .ref m18, .ref m19, .ref m20, .int 0, .ref m21]))] s.heap.size = A at hD ⊢
  have hA : ∀ q : Nat, s.heap.size ≤ q → A q := fun q h => by rw [← hAe]; exact Or.inr h
  have hS : va_S A s.heap s.heap [] := va_S.rf
  have hl := lv_entry ([.ref h0]) (n := 1) (Nat.le_of_ble_eq_true rfl)
  rw [lg_entry_eq]
  generalize (lg_sl ([.ref h0]) ++ List.replicate (1 - (lg_sl ([.ref h0])).length) Slot.unset).toArray = ls at hl ⊢
  have hl : lv_has ls 1 [(0, .ref h0)] := hl
  refine lv_aload_n hx hb dX7_fail_0 rfl (lv_at hl 0 rfl) ?_
  refine va_get (D := (dC, dI)) (ci := 7) (v := .int 0) (C := RX7) (T := TX7) (N := 39) hx hb hg i_X7 hown hK hP 0 rfl rfl 5 (by decide) (hg _ k_229) (fun _ h9 => h9) rfl dX7_fail_1 ?_
  refine lv_if_eq (tgt := 8) hx hb dX7_fail_4 (by decide) (fun _ => ?_) (fun c9 => absurd (by decide) c9)
  refine lv_aload_n hx hb dX7_fail_8 rfl (lv_at hl 0 rfl) ?_
  refine lv_iconst (v := 1) hx hb dX7_fail_9 (by decide) ?_
  refine va_put (D := (dC, dI)) (ci := 7) (v := .int 1) (ty := .boolean) (C := RX7) (T := TX7) (N := 39) hx hb hg i_X7 tyX7 tyX7_ok nmX7 hown hK hP hD hS 0 rfl rfl 5 (by decide) (hg _ k_229) (fun _ h9 => h9) rfl (by decide +kernel) rfl rfl (Nat.le_of_ble_eq_true rfl) dX7_fail_10 (fun H locs hP hD hS => ?_)
  have hP : va_P (dC, dI) vwCl [(h0, .inr (7, [.int 0, .ref m1, .int 0, .int 0, .int 0, .int 1, .int (-1), .int 0, .int 0, .ref m2, .ref m3, .ref m4, .int 0, .ref m5, .ref m6, .ref m7, .int 0, .ref m8, .ref m9, .ref m10, .int 1, .int 0, .ref m11, .ref m12, .ref m13, .int 0, .int 0, .ref m14, .int 0, .ref m15, .ref m16, .ref m17, .int 0, .int 0, .ref m18, .ref m19, .ref m20, .int 0, .ref m21]))] H := hP
  have hD : va_D A [(h0, .inr (7, [.int 0, .ref m1, .int 0, .int 0, .int 0, .int 1, .int (-1), .int 0, .int 0, .ref m2, .ref m3, .ref m4, .int 0, .ref m5, .ref m6, .ref m7, .int 0, .ref m8, .ref m9, .ref m10, .int 1, .int 0, .ref m11, .ref m12, .ref m13, .int 0, .int 0, .ref m14, .int 0, .ref m15, .ref m16, .ref m17, .int 0, .int 0, .ref m18, .ref m19, .ref m20, .int 0, .ref m21]))] := hD
  refine lv_aload_n hx hb dX7_fail_13 rfl (lv_at hl 0 rfl) ?_
  refine lv_aload_n hx hb dX7_fail_14 rfl (lv_at hl 0 rfl) ?_
  refine va_get (D := (dC, dI)) (ci := 7) (v := .int 0) (C := RX7) (T := TX7) (N := 39) hx hb hg i_X7 hown hK hP 0 rfl rfl 4 (by decide) (hg _ k_227) (fun _ h9 => h9) rfl dX7_fail_15 ?_
  refine va_put (D := (dC, dI)) (ci := 7) (v := .int 0) (ty := .int) (C := RX7) (T := TX7) (N := 39) hx hb hg i_X7 tyX7 tyX7_ok nmX7 hown hK hP hD hS 0 rfl rfl 6 (by decide) (hg _ k_99) (fun _ h9 => h9) rfl (by decide +kernel) rfl rfl (Nat.le_of_ble_eq_true rfl) dX7_fail_18 (fun H locs hP hD hS => ?_)
  have hP : va_P (dC, dI) vwCl [(h0, .inr (7, [.int 0, .ref m1, .int 0, .int 0, .int 0, .int 1, .int 0, .int 0, .int 0, .ref m2, .ref m3, .ref m4, .int 0, .ref m5, .ref m6, .ref m7, .int 0, .ref m8, .ref m9, .ref m10, .int 1, .int 0, .ref m11, .ref m12, .ref m13, .int 0, .int 0, .ref m14, .int 0, .ref m15, .ref m16, .ref m17, .int 0, .int 0, .ref m18, .ref m19, .ref m20, .int 0, .ref m21]))] H := hP
  have hD : va_D A [(h0, .inr (7, [.int 0, .ref m1, .int 0, .int 0, .int 0, .int 1, .int 0, .int 0, .int 0, .ref m2, .ref m3, .ref m4, .int 0, .ref m5, .ref m6, .ref m7, .int 0, .ref m8, .ref m9, .ref m10, .int 1, .int 0, .ref m11, .ref m12, .ref m13, .int 0, .int 0, .ref m14, .int 0, .ref m15, .ref m16, .ref m17, .int 0, .int 0, .ref m18, .ref m19, .ref m20, .int 0, .ref m21]))] := hD
  have hP9 := hP.sub (ws' := [(h0, .inr (7, [.int 0, .ref m1, .int 0, .int 0, .int 0, .int 1, .int 0, .int 0, .int 0, .ref m2, .ref m3, .ref m4, .int 0, .ref m5, .ref m6, .ref m7, .int 0, .ref m8, .ref m9, .ref m10, .int 1, .int 0, .ref m11, .ref m12, .ref m13, .int 0, .int 0, .ref m14, .int 0, .ref m15, .ref m16, .ref m17, .int 0, .int 0, .ref m18, .ref m19, .ref m20, .int 0, .ref m21]))]) [0] rfl
  have hD9 := hD.sub (ws' := [(h0, .inr (7, [.int 0, .ref m1, .int 0, .int 0, .int 0, .int 1, .int 0, .int 0, .int 0, .ref m2, .ref m3, .ref m4, .int 0, .ref m5, .ref m6, .ref m7, .int 0, .ref m8, .ref m9, .ref m10, .int 1, .int 0, .ref m11, .ref m12, .ref m13, .int 0, .int 0, .ref m14, .int 0, .ref m15, .ref m16, .ref m17, .int 0, .int 0, .ref m18, .ref m19, .ref m20, .int 0, .ref m21]))]) [0] (by decide) rfl
  refine W.widen (k := 0) (n := 0) (Nat.le_of_ble_eq_true rfl) (Nat.le_of_ble_eq_true rfl) ?_
  exact W.vret hx hb hr (fun t ht hW => ⟨⟨(), rfl, trivial, by rw [ht]; exact hP9, hD9⟩, hS.F ht⟩) hS.2.2 dX7_fail_21

set_option maxHeartbeats 4000000 in
set_option maxRecDepth 100000 in
/-- isLetter(NONE) -/
theorem c_X7_isLetter (l : Launch) (dC : Nat → ClassId) (dI : Nat → Nat → Nat) (cI cZ cL : ClassId) (sz : Nat)  : Met l yX7_isLetter (wd yX7_isLetter cX7_isLetter 1 (some .boolean)) ({ frames := 0, cells := 0, slots := 0, locals := 0 }) (va_Pc [.int (-1)] (hp dC dI cI cZ cL sz [])) (va_Qi (fun (r : Int32) (_ : Unit) => r = 0) (fun (_ : Unit) t => va_P (dC, dI) vwCl [] t.heap ∧ va_D (va_A [] sz) []) (va_A [] sz)) 0 0 (va_A [] sz) := by
  refine Met.ofW (cc := cX7_isLetter) (maxL := 1) (ret := (some .boolean)) (by decide) rfl ?_
  intro p e s m args below meth c s₁ B hml hv
  obtain ⟨rfl, hsz, hP, hK, hD0⟩ := hv
  have hx := B.exec
  have hb := B.bytes
  have hr := B.returns
  have hw9 := atoms_spec (ws := (wd yX7_isLetter cX7_isLetter 1 (some .boolean))) B.pre
  have hg := gw_hts hw9
  have hown : s.vm.findClass RX7 = some m.cls := findClass_of_methodNamed B.named
  have hlocks := B.notSynchronized
  subst hsz
  have hD := hD0.self (sz := s.heap.size)
  generalize hAe : va_A [] s.heap.size = A at hD ⊢
  have hA : ∀ q : Nat, s.heap.size ≤ q → A q := fun q h => by rw [← hAe]; exact Or.inr h
  have hS : va_S A s.heap s.heap [] := va_S.rf
  have hl := lv_entry ([.int (-1)]) (n := 1) (Nat.le_of_ble_eq_true rfl)
  rw [lg_entry_eq]
  generalize (lg_sl ([.int (-1)]) ++ List.replicate (1 - (lg_sl ([.int (-1)])).length) Slot.unset).toArray = ls at hl ⊢
  have hl : lv_has ls 1 [(0, .int (-1))] := hl
  refine lv_iload_n hx hb dX7_isLetter_0 rfl (lv_at hl 0 rfl) ?_
  refine lv_bipush (v := 97) hx hb dX7_isLetter_1 (by decide) ?_
  refine lv_icmp_lt (tgt := 16) hx hb dX7_isLetter_3 (by decide) (fun _ => ?_) (fun c9 => absurd (by decide) c9)
  refine lv_iconst (v := 0) hx hb dX7_isLetter_16 (by decide) ?_
  have hP9 := hP.sub (ws' := []) [] rfl
  have hD9 := hD.sub (ws' := []) [] (by decide) rfl
  refine W.widen (k := 0) (n := 0) (Nat.le_of_ble_eq_true rfl) (Nat.le_of_ble_eq_true rfl) ?_
  exact W.zret (ty := .boolean) (v := 0) hx hb hr (by decide) (fun t ht hW => ⟨⟨0, (), rfl, rfl, by rw [ht]; exact hP9, hD9⟩, hS.F ht⟩) hS.2.2 dX7_isLetter_17

set_option maxHeartbeats 4000000 in
set_option maxRecDepth 100000 in
/-- open(0, 0, 0), the first -/
theorem c_X7_open (l : Launch) (dC : Nat → ClassId) (dI : Nat → Nat → Nat) (cI cZ cL : ClassId) (h0 m8 m9 m10 : Nat) (sz : Nat) (m1 m2 m3 m4 m5 m6 m7 m11 m12 m13 m14 m15 m16 m17 m18 m19 m20 m21 : Nat) : Met l yX7_open (wd yX7_open cX7_open 4 none) ({ frames := 0, cells := 0, slots := 0, locals := 0 }) (va_Pc [.ref h0, .int 0, .int 0, .int 0] (hp dC dI cI cZ cL sz [(h0, .inr (7, [.int 0, .ref m1, .int 0, .int 0, .int 0, .int 0, .int (-1), .int 0, .int 0, .ref m2, .ref m3, .ref m4, .int 0, .ref m5, .ref m6, .ref m7, .int 0, .ref m8, .ref m9, .ref m10, .int 0, .int 0, .ref m11, .ref m12, .ref m13, .int 0, .int 0, .ref m14, .int 0, .ref m15, .ref m16, .ref m17, .int 0, .int 0, .ref m18, .ref m19, .ref m20, .int 0, .ref m21])), (m8, .inl (cI, 130, .inl zI)), (m9, .inl (cI, 130, .inl zI)), (m10, .inl (cI, 130, .inl zI))])) (va_Qv (fun (_ : Unit) => True) (fun (_ : Unit) t => va_P (dC, dI) vwCl [(h0, .inr (7, [.int 0, .ref m1, .int 0, .int 0, .int 0, .int 0, .int (-1), .int 0, .int 0, .ref m2, .ref m3, .ref m4, .int 0, .ref m5, .ref m6, .ref m7, .int 0, .ref m8, .ref m9, .ref m10, .int 1, .int 0, .ref m11, .ref m12, .ref m13, .int 0, .int 0, .ref m14, .int 0, .ref m15, .ref m16, .ref m17, .int 0, .int 0, .ref m18, .ref m19, .ref m20, .int 0, .ref m21]))] t.heap ∧ va_D (va_A [(h0, .inr (7, [.int 0, .ref m1, .int 0, .int 0, .int 0, .int 0, .int (-1), .int 0, .int 0, .ref m2, .ref m3, .ref m4, .int 0, .ref m5, .ref m6, .ref m7, .int 0, .ref m8, .ref m9, .ref m10, .int 0, .int 0, .ref m11, .ref m12, .ref m13, .int 0, .int 0, .ref m14, .int 0, .ref m15, .ref m16, .ref m17, .int 0, .int 0, .ref m18, .ref m19, .ref m20, .int 0, .ref m21])), (m8, .inl (cI, 130, .inl zI)), (m9, .inl (cI, 130, .inl zI)), (m10, .inl (cI, 130, .inl zI))] sz) [(h0, .inr (7, [.int 0, .ref m1, .int 0, .int 0, .int 0, .int 0, .int (-1), .int 0, .int 0, .ref m2, .ref m3, .ref m4, .int 0, .ref m5, .ref m6, .ref m7, .int 0, .ref m8, .ref m9, .ref m10, .int 1, .int 0, .ref m11, .ref m12, .ref m13, .int 0, .int 0, .ref m14, .int 0, .ref m15, .ref m16, .ref m17, .int 0, .int 0, .ref m18, .ref m19, .ref m20, .int 0, .ref m21]))]) (va_A [(h0, .inr (7, [.int 0, .ref m1, .int 0, .int 0, .int 0, .int 0, .int (-1), .int 0, .int 0, .ref m2, .ref m3, .ref m4, .int 0, .ref m5, .ref m6, .ref m7, .int 0, .ref m8, .ref m9, .ref m10, .int 0, .int 0, .ref m11, .ref m12, .ref m13, .int 0, .int 0, .ref m14, .int 0, .ref m15, .ref m16, .ref m17, .int 0, .int 0, .ref m18, .ref m19, .ref m20, .int 0, .ref m21])), (m8, .inl (cI, 130, .inl zI)), (m9, .inl (cI, 130, .inl zI)), (m10, .inl (cI, 130, .inl zI))] sz)) 0 0 (va_A [(h0, .inr (7, [.int 0, .ref m1, .int 0, .int 0, .int 0, .int 0, .int (-1), .int 0, .int 0, .ref m2, .ref m3, .ref m4, .int 0, .ref m5, .ref m6, .ref m7, .int 0, .ref m8, .ref m9, .ref m10, .int 0, .int 0, .ref m11, .ref m12, .ref m13, .int 0, .int 0, .ref m14, .int 0, .ref m15, .ref m16, .ref m17, .int 0, .int 0, .ref m18, .ref m19, .ref m20, .int 0, .ref m21])), (m8, .inl (cI, 130, .inl zI)), (m9, .inl (cI, 130, .inl zI)), (m10, .inl (cI, 130, .inl zI))] sz) := by
  refine Met.ofW (cc := cX7_open) (maxL := 4) (ret := none) (by decide) rfl ?_
  intro p e s m args below meth c s₁ B hml hv
  obtain ⟨rfl, hsz, hP, hK, hD0⟩ := hv
  have hx := B.exec
  have hb := B.bytes
  have hr := B.returns
  have hw9 := atoms_spec (ws := (wd yX7_open cX7_open 4 none)) B.pre
  have hg := gw_hts hw9
  have hown : s.vm.findClass RX7 = some m.cls := findClass_of_methodNamed B.named
  have hlocks := B.notSynchronized
  subst hsz
  have hD := hD0.self (sz := s.heap.size)
  generalize hAe : va_A [(h0, .inr (7, [.int 0, .ref m1, .int 0, .int 0, .int 0, .int 0, .int (-1), .int 0, .int 0, .ref m2, .ref m3, .ref m4, .int 0, .ref m5, .ref m6, .ref m7, .int 0, .ref m8, .ref m9, .ref m10, .int 0, .int 0, .ref m11, .ref m12, .ref m13, .int 0, .int 0, .ref m14, .int 0, .ref m15, .ref m16, .ref m17, .int 0, .int 0, .ref m18, .ref m19, .ref m20, .int 0, .ref m21])), (m8, .inl (cI, 130, .inl zI)), (m9, .inl (cI, 130, .inl zI)), (m10, .inl (cI, 130, .inl zI))] s.heap.size = A at hD ⊢
  have hA : ∀ q : Nat, s.heap.size ≤ q → A q := fun q h => by rw [← hAe]; exact Or.inr h
  have hS : va_S A s.heap s.heap [] := va_S.rf
  have hl := lv_entry ([.ref h0, .int 0, .int 0, .int 0]) (n := 4) (Nat.le_of_ble_eq_true rfl)
  rw [lg_entry_eq]
  generalize (lg_sl ([.ref h0, .int 0, .int 0, .int 0]) ++ List.replicate (4 - (lg_sl ([.ref h0, .int 0, .int 0, .int 0])).length) Slot.unset).toArray = ls at hl ⊢
  have hl : lv_has ls 4 [(0, .ref h0), (1, .int 0), (2, .int 0), (3, .int 0)] := hl
  refine lv_aload_n hx hb dX7_open_0 rfl (lv_at hl 0 rfl) ?_
  refine va_get (D := (dC, dI)) (ci := 7) (v := .ref m8) (C := RX7) (T := TX7) (N := 39) hx hb hg i_X7 hown hK hP 0 rfl rfl 17 (by decide) (hg _ k_107) (fun _ h9 => h9) rfl dX7_open_1 ?_
  refine lv_aload_n hx hb dX7_open_4 rfl (lv_at hl 0 rfl) ?_
  refine va_get (D := (dC, dI)) (ci := 7) (v := .int 0) (C := RX7) (T := TX7) (N := 39) hx hb hg i_X7 hown hK hP 0 rfl rfl 20 (by decide) (hg _ k_230) (fun _ h9 => h9) rfl dX7_open_5 ?_
  refine lv_iload_n hx hb dX7_open_8 rfl (lv_at hl 1 rfl) ?_
  refine va_iast hx hb hK hP hD hS 1 0 rfl rfl (vp_lit (by decide) (by decide)) dX7_open_9 (fun H locs hP hD hS => ?_)
  generalize upd zI (Int32.toNatClampNeg 0) (0 : Int32) = f1 at hP hD
  have hP : va_P (dC, dI) vwCl [(h0, .inr (7, [.int 0, .ref m1, .int 0, .int 0, .int 0, .int 0, .int (-1), .int 0, .int 0, .ref m2, .ref m3, .ref m4, .int 0, .ref m5, .ref m6, .ref m7, .int 0, .ref m8, .ref m9, .ref m10, .int 0, .int 0, .ref m11, .ref m12, .ref m13, .int 0, .int 0, .ref m14, .int 0, .ref m15, .ref m16, .ref m17, .int 0, .int 0, .ref m18, .ref m19, .ref m20, .int 0, .ref m21])), (m8, .inl (cI, 130, .inl f1)), (m9, .inl (cI, 130, .inl zI)), (m10, .inl (cI, 130, .inl zI))] H := hP
  have hD : va_D A [(h0, .inr (7, [.int 0, .ref m1, .int 0, .int 0, .int 0, .int 0, .int (-1), .int 0, .int 0, .ref m2, .ref m3, .ref m4, .int 0, .ref m5, .ref m6, .ref m7, .int 0, .ref m8, .ref m9, .ref m10, .int 0, .int 0, .ref m11, .ref m12, .ref m13, .int 0, .int 0, .ref m14, .int 0, .ref m15, .ref m16, .ref m17, .int 0, .int 0, .ref m18, .ref m19, .ref m20, .int 0, .ref m21])), (m8, .inl (cI, 130, .inl f1)), (m9, .inl (cI, 130, .inl zI)), (m10, .inl (cI, 130, .inl zI))] := hD
  refine lv_aload_n hx hb dX7_open_10 rfl (lv_at hl 0 rfl) ?_
  refine va_get (D := (dC, dI)) (ci := 7) (v := .ref m9) (C := RX7) (T := TX7) (N := 39) hx hb hg i_X7 hown hK hP 0 rfl rfl 18 (by decide) (hg _ k_108) (fun _ h9 => h9) rfl dX7_open_11 ?_
  refine lv_aload_n hx hb dX7_open_14 rfl (lv_at hl 0 rfl) ?_
  refine va_get (D := (dC, dI)) (ci := 7) (v := .int 0) (C := RX7) (T := TX7) (N := 39) hx hb hg i_X7 hown hK hP 0 rfl rfl 20 (by decide) (hg _ k_230) (fun _ h9 => h9) rfl dX7_open_15 ?_
  refine lv_iload_n hx hb dX7_open_18 rfl (lv_at hl 2 rfl) ?_
  refine va_iast hx hb hK hP hD hS 2 0 rfl rfl (vp_lit (by decide) (by decide)) dX7_open_19 (fun H locs hP hD hS => ?_)
  generalize upd zI (Int32.toNatClampNeg 0) (0 : Int32) = f2 at hP hD
  have hP : va_P (dC, dI) vwCl [(h0, .inr (7, [.int 0, .ref m1, .int 0, .int 0, .int 0, .int 0, .int (-1), .int 0, .int 0, .ref m2, .ref m3, .ref m4, .int 0, .ref m5, .ref m6, .ref m7, .int 0, .ref m8, .ref m9, .ref m10, .int 0, .int 0, .ref m11, .ref m12, .ref m13, .int 0, .int 0, .ref m14, .int 0, .ref m15, .ref m16, .ref m17, .int 0, .int 0, .ref m18, .ref m19, .ref m20, .int 0, .ref m21])), (m8, .inl (cI, 130, .inl f1)), (m9, .inl (cI, 130, .inl f2)), (m10, .inl (cI, 130, .inl zI))] H := hP
  have hD : va_D A [(h0, .inr (7, [.int 0, .ref m1, .int 0, .int 0, .int 0, .int 0, .int (-1), .int 0, .int 0, .ref m2, .ref m3, .ref m4, .int 0, .ref m5, .ref m6, .ref m7, .int 0, .ref m8, .ref m9, .ref m10, .int 0, .int 0, .ref m11, .ref m12, .ref m13, .int 0, .int 0, .ref m14, .int 0, .ref m15, .ref m16, .ref m17, .int 0, .int 0, .ref m18, .ref m19, .ref m20, .int 0, .ref m21])), (m8, .inl (cI, 130, .inl f1)), (m9, .inl (cI, 130, .inl f2)), (m10, .inl (cI, 130, .inl zI))] := hD
  refine lv_aload_n hx hb dX7_open_20 rfl (lv_at hl 0 rfl) ?_
  refine va_get (D := (dC, dI)) (ci := 7) (v := .ref m10) (C := RX7) (T := TX7) (N := 39) hx hb hg i_X7 hown hK hP 0 rfl rfl 19 (by decide) (hg _ k_109) (fun _ h9 => h9) rfl dX7_open_21 ?_
  refine lv_aload_n hx hb dX7_open_24 rfl (lv_at hl 0 rfl) ?_
  refine va_get (D := (dC, dI)) (ci := 7) (v := .int 0) (C := RX7) (T := TX7) (N := 39) hx hb hg i_X7 hown hK hP 0 rfl rfl 20 (by decide) (hg _ k_230) (fun _ h9 => h9) rfl dX7_open_25 ?_
  refine lv_iload_n hx hb dX7_open_28 rfl (lv_at hl 3 rfl) ?_
  refine va_iast hx hb hK hP hD hS 3 0 rfl rfl (vp_lit (by decide) (by decide)) dX7_open_29 (fun H locs hP hD hS => ?_)
  generalize upd zI (Int32.toNatClampNeg 0) (0 : Int32) = f3 at hP hD
  have hP : va_P (dC, dI) vwCl [(h0, .inr (7, [.int 0, .ref m1, .int 0, .int 0, .int 0, .int 0, .int (-1), .int 0, .int 0, .ref m2, .ref m3, .ref m4, .int 0, .ref m5, .ref m6, .ref m7, .int 0, .ref m8, .ref m9, .ref m10, .int 0, .int 0, .ref m11, .ref m12, .ref m13, .int 0, .int 0, .ref m14, .int 0, .ref m15, .ref m16, .ref m17, .int 0, .int 0, .ref m18, .ref m19, .ref m20, .int 0, .ref m21])), (m8, .inl (cI, 130, .inl f1)), (m9, .inl (cI, 130, .inl f2)), (m10, .inl (cI, 130, .inl f3))] H := hP
  have hD : va_D A [(h0, .inr (7, [.int 0, .ref m1, .int 0, .int 0, .int 0, .int 0, .int (-1), .int 0, .int 0, .ref m2, .ref m3, .ref m4, .int 0, .ref m5, .ref m6, .ref m7, .int 0, .ref m8, .ref m9, .ref m10, .int 0, .int 0, .ref m11, .ref m12, .ref m13, .int 0, .int 0, .ref m14, .int 0, .ref m15, .ref m16, .ref m17, .int 0, .int 0, .ref m18, .ref m19, .ref m20, .int 0, .ref m21])), (m8, .inl (cI, 130, .inl f1)), (m9, .inl (cI, 130, .inl f2)), (m10, .inl (cI, 130, .inl f3))] := hD
  refine lv_aload_n hx hb dX7_open_30 rfl (lv_at hl 0 rfl) ?_
  refine lv_dup hx hb dX7_open_31 rfl ?_
  refine va_get (D := (dC, dI)) (ci := 7) (v := .int 0) (C := RX7) (T := TX7) (N := 39) hx hb hg i_X7 hown hK hP 0 rfl rfl 20 (by decide) (hg _ k_230) (fun _ h9 => h9) rfl dX7_open_32 ?_
  refine lv_iconst (v := 1) hx hb dX7_open_35 (by decide) ?_
  refine lv_iadd hx hb dX7_open_36 ?_
  refine lv_topi (fun z4 ez4 => ?_)
  obtain rfl : z4 = 1 := ez4.trans (by decide)
  refine va_put (D := (dC, dI)) (ci := 7) (v := .int 1) (ty := .int) (C := RX7) (T := TX7) (N := 39) hx hb hg i_X7 tyX7 tyX7_ok nmX7 hown hK hP hD hS 0 rfl rfl 20 (by decide) (hg _ k_230) (fun _ h9 => h9) rfl (by decide +kernel) rfl rfl (Nat.le_of_ble_eq_true rfl) dX7_open_37 (fun H locs hP hD hS => ?_)
  have hP : va_P (dC, dI) vwCl [(h0, .inr (7, [.int 0, .ref m1, .int 0, .int 0, .int 0, .int 0, .int (-1), .int 0, .int 0, .ref m2, .ref m3, .ref m4, .int 0, .ref m5, .ref m6, .ref m7, .int 0, .ref m8, .ref m9, .ref m10, .int 1, .int 0, .ref m11, .ref m12, .ref m13, .int 0, .int 0, .ref m14, .int 0, .ref m15, .ref m16, .ref m17, .int 0, .int 0, .ref m18, .ref m19, .ref m20, .int 0, .ref m21])), (m8, .inl (cI, 130, .inl f1)), (m9, .inl (cI, 130, .inl f2)), (m10, .inl (cI, 130, .inl f3))] H := hP
  have hD : va_D A [(h0, .inr (7, [.int 0, .ref m1, .int 0, .int 0, .int 0, .int 0, .int (-1), .int 0, .int 0, .ref m2, .ref m3, .ref m4, .int 0, .ref m5, .ref m6, .ref m7, .int 0, .ref m8, .ref m9, .ref m10, .int 1, .int 0, .ref m11, .ref m12, .ref m13, .int 0, .int 0, .ref m14, .int 0, .ref m15, .ref m16, .ref m17, .int 0, .int 0, .ref m18, .ref m19, .ref m20, .int 0, .ref m21])), (m8, .inl (cI, 130, .inl f1)), (m9, .inl (cI, 130, .inl f2)), (m10, .inl (cI, 130, .inl f3))] := hD
  have hP9 := hP.sub (ws' := [(h0, .inr (7, [.int 0, .ref m1, .int 0, .int 0, .int 0, .int 0, .int (-1), .int 0, .int 0, .ref m2, .ref m3, .ref m4, .int 0, .ref m5, .ref m6, .ref m7, .int 0, .ref m8, .ref m9, .ref m10, .int 1, .int 0, .ref m11, .ref m12, .ref m13, .int 0, .int 0, .ref m14, .int 0, .ref m15, .ref m16, .ref m17, .int 0, .int 0, .ref m18, .ref m19, .ref m20, .int 0, .ref m21]))]) [0] rfl
  have hD9 := hD.sub (ws' := [(h0, .inr (7, [.int 0, .ref m1, .int 0, .int 0, .int 0, .int 0, .int (-1), .int 0, .int 0, .ref m2, .ref m3, .ref m4, .int 0, .ref m5, .ref m6, .ref m7, .int 0, .ref m8, .ref m9, .ref m10, .int 1, .int 0, .ref m11, .ref m12, .ref m13, .int 0, .int 0, .ref m14, .int 0, .ref m15, .ref m16, .ref m17, .int 0, .int 0, .ref m18, .ref m19, .ref m20, .int 0, .ref m21]))]) [0] (by decide) rfl
  refine W.widen (k := 0) (n := 0) (Nat.le_of_ble_eq_true rfl) (Nat.le_of_ble_eq_true rfl) ?_
  exact W.vret hx hb hr (fun t ht hW => ⟨⟨(), rfl, trivial, by rw [ht]; exact hP9, hD9⟩, hS.F ht⟩) hS.2.2 dX7_open_40

set_option maxHeartbeats 4000000 in
set_option maxRecDepth 100000 in
/-- begin(), nothing taped -/
theorem c_X7_begin (l : Launch) (dC : Nat → ClassId) (dI : Nat → Nat → Nat) (cI cZ cL : ClassId) (h0 : Nat) (sz : Nat) (m1 m2 m3 m4 m5 m6 m7 m8 m9 m10 m11 m12 m13 m14 m15 m16 m17 m18 m19 m20 m21 : Nat) : Met l yX7_begin (wd yX7_begin cX7_begin 1 none) ({ frames := 0, cells := 0, slots := 0, locals := 0 }) (va_Pc [.ref h0] (hp dC dI cI cZ cL sz [(h0, .inr (7, [.int 0, .ref m1, .int 0, .int 0, .int 0, .int 0, .int (-1), .int 0, .int 0, .ref m2, .ref m3, .ref m4, .int 0, .ref m5, .ref m6, .ref m7, .int 0, .ref m8, .ref m9, .ref m10, .int 0, .int 0, .ref m11, .ref m12, .ref m13, .int 0, .int 0, .ref m14, .int 0, .ref m15, .ref m16, .ref m17, .int 0, .int 0, .ref m18, .ref m19, .ref m20, .int 0, .ref m21]))])) (va_Qv (fun (_ : Unit) => True) (fun (_ : Unit) t => va_P (dC, dI) vwCl [(h0, .inr (7, [.int 0, .ref m1, .int 0, .int 0, .int 0, .int 0, .int (-1), .int 0, .int 0, .ref m2, .ref m3, .ref m4, .int 0, .ref m5, .ref m6, .ref m7, .int 0, .ref m8, .ref m9, .ref m10, .int 0, .int 0, .ref m11, .ref m12, .ref m13, .int 0, .int 0, .ref m14, .int 0, .ref m15, .ref m16, .ref m17, .int 0, .int 0, .ref m18, .ref m19, .ref m20, .int 0, .ref m21]))] t.heap ∧ va_D (va_A [(h0, .inr (7, [.int 0, .ref m1, .int 0, .int 0, .int 0, .int 0, .int (-1), .int 0, .int 0, .ref m2, .ref m3, .ref m4, .int 0, .ref m5, .ref m6, .ref m7, .int 0, .ref m8, .ref m9, .ref m10, .int 0, .int 0, .ref m11, .ref m12, .ref m13, .int 0, .int 0, .ref m14, .int 0, .ref m15, .ref m16, .ref m17, .int 0, .int 0, .ref m18, .ref m19, .ref m20, .int 0, .ref m21]))] sz) [(h0, .inr (7, [.int 0, .ref m1, .int 0, .int 0, .int 0, .int 0, .int (-1), .int 0, .int 0, .ref m2, .ref m3, .ref m4, .int 0, .ref m5, .ref m6, .ref m7, .int 0, .ref m8, .ref m9, .ref m10, .int 0, .int 0, .ref m11, .ref m12, .ref m13, .int 0, .int 0, .ref m14, .int 0, .ref m15, .ref m16, .ref m17, .int 0, .int 0, .ref m18, .ref m19, .ref m20, .int 0, .ref m21]))]) (va_A [(h0, .inr (7, [.int 0, .ref m1, .int 0, .int 0, .int 0, .int 0, .int (-1), .int 0, .int 0, .ref m2, .ref m3, .ref m4, .int 0, .ref m5, .ref m6, .ref m7, .int 0, .ref m8, .ref m9, .ref m10, .int 0, .int 0, .ref m11, .ref m12, .ref m13, .int 0, .int 0, .ref m14, .int 0, .ref m15, .ref m16, .ref m17, .int 0, .int 0, .ref m18, .ref m19, .ref m20, .int 0, .ref m21]))] sz)) 0 0 (va_A [(h0, .inr (7, [.int 0, .ref m1, .int 0, .int 0, .int 0, .int 0, .int (-1), .int 0, .int 0, .ref m2, .ref m3, .ref m4, .int 0, .ref m5, .ref m6, .ref m7, .int 0, .ref m8, .ref m9, .ref m10, .int 0, .int 0, .ref m11, .ref m12, .ref m13, .int 0, .int 0, .ref m14, .int 0, .ref m15, .ref m16, .ref m17, .int 0, .int 0, .ref m18, .ref m19, .ref m20, .int 0, .ref m21]))] sz) := by
  refine Met.ofW (cc := cX7_begin) (maxL := 1) (ret := none) (by decide) rfl ?_
  intro p e s m args below meth c s₁ B hml hv
  obtain ⟨rfl, hsz, hP, hK, hD0⟩ := hv
  have hx := B.exec
  have hb := B.bytes
  have hr := B.returns
  have hw9 := atoms_spec (ws := (wd yX7_begin cX7_begin 1 none)) B.pre
  have hg := gw_hts hw9
  have hown : s.vm.findClass RX7 = some m.cls := findClass_of_methodNamed B.named
  have hlocks := B.notSynchronized
  subst hsz
  have hD := hD0.self (sz := s.heap.size)
  generalize hAe : va_A [(h0, .inr (7, [.int 0, .ref m1, .int 0, .int 0, .int 0, .int 0, .int (-1), .int 0, .int 0, .ref m2, .ref m3, .ref m4, .int 0, .ref m5, .ref m6, .ref m7, .int 0, .ref m8, .ref m9, .ref m10, .int 0, .int 0, .ref m11, .ref m12, .ref m13, .int 0, .int 0, .ref m14, .int 0, .ref m15, .ref m16, .ref m17, .int 0, .int 0, .ref m18, .ref m19, .ref m20, .int 0, .ref m21]))] s.heap.size = A at hD ⊢
  have hA : ∀ q : Nat, s.heap.size ≤ q → A q := fun q h => by rw [← hAe]; exact Or.inr h
  have hS : va_S A s.heap s.heap [] := va_S.rf
  have hl := lv_entry ([.ref h0]) (n := 1) (Nat.le_of_ble_eq_true rfl)
  rw [lg_entry_eq]
  generalize (lg_sl ([.ref h0]) ++ List.replicate (1 - (lg_sl ([.ref h0])).length) Slot.unset).toArray = ls at hl ⊢
  have hl : lv_has ls 1 [(0, .ref h0)] := hl
  refine lv_aload_n hx hb dX7_begin_0 rfl (lv_at hl 0 rfl) ?_
  refine lv_aload_n hx hb dX7_begin_1 rfl (lv_at hl 0 rfl) ?_
  refine va_get (D := (dC, dI)) (ci := 7) (v := .int 0) (C := RX7) (T := TX7) (N := 39) hx hb hg i_X7 hown hK hP 0 rfl rfl 2 (by decide) (hg _ k_231) (fun _ h9 => h9) rfl dX7_begin_2 ?_
  refine va_put (D := (dC, dI)) (ci := 7) (v := .int 0) (ty := .int) (C := RX7) (T := TX7) (N := 39) hx hb hg i_X7 tyX7 tyX7_ok nmX7 hown hK hP hD hS 0 rfl rfl 3 (by decide) (hg _ k_228) (fun _ h9 => h9) rfl (by decide +kernel) rfl rfl (Nat.le_of_ble_eq_true rfl) dX7_begin_5 (fun H locs hP hD hS => ?_)
  have hP : va_P (dC, dI) vwCl [(h0, .inr (7, [.int 0, .ref m1, .int 0, .int 0, .int 0, .int 0, .int (-1), .int 0, .int 0, .ref m2, .ref m3, .ref m4, .int 0, .ref m5, .ref m6, .ref m7, .int 0, .ref m8, .ref m9, .ref m10, .int 0, .int 0, .ref m11, .ref m12, .ref m13, .int 0, .int 0, .ref m14, .int 0, .ref m15, .ref m16, .ref m17, .int 0, .int 0, .ref m18, .ref m19, .ref m20, .int 0, .ref m21]))] H := hP
  have hD : va_D A [(h0, .inr (7, [.int 0, .ref m1, .int 0, .int 0, .int 0, .int 0, .int (-1), .int 0, .int 0, .ref m2, .ref m3, .ref m4, .int 0, .ref m5, .ref m6, .ref m7, .int 0, .ref m8, .ref m9, .ref m10, .int 0, .int 0, .ref m11, .ref m12, .ref m13, .int 0, .int 0, .ref m14, .int 0, .ref m15, .ref m16, .ref m17, .int 0, .int 0, .ref m18, .ref m19, .ref m20, .int 0, .ref m21]))] := hD
  refine lv_aload_n hx hb dX7_begin_8 rfl (lv_at hl 0 rfl) ?_
  refine lv_iconst (v := 0) hx hb dX7_begin_9 (by decide) ?_
  refine va_put (D := (dC, dI)) (ci := 7) (v := .int 0) (ty := .int) (C := RX7) (T := TX7) (N := 39) hx hb hg i_X7 tyX7 tyX7_ok nmX7 hown hK hP hD hS 0 rfl rfl 2 (by decide) (hg _ k_231) (fun _ h9 => h9) rfl (by decide +kernel) rfl rfl (Nat.le_of_ble_eq_true rfl) dX7_begin_10 (fun H locs hP hD hS => ?_)
  have hP : va_P (dC, dI) vwCl [(h0, .inr (7, [.int 0, .ref m1, .int 0, .int 0, .int 0, .int 0, .int (-1), .int 0, .int 0, .ref m2, .ref m3, .ref m4, .int 0, .ref m5, .ref m6, .ref m7, .int 0, .ref m8, .ref m9, .ref m10, .int 0, .int 0, .ref m11, .ref m12, .ref m13, .int 0, .int 0, .ref m14, .int 0, .ref m15, .ref m16, .ref m17, .int 0, .int 0, .ref m18, .ref m19, .ref m20, .int 0, .ref m21]))] H := hP
  have hD : va_D A [(h0, .inr (7, [.int 0, .ref m1, .int 0, .int 0, .int 0, .int 0, .int (-1), .int 0, .int 0, .ref m2, .ref m3, .ref m4, .int 0, .ref m5, .ref m6, .ref m7, .int 0, .ref m8, .ref m9, .ref m10, .int 0, .int 0, .ref m11, .ref m12, .ref m13, .int 0, .int 0, .ref m14, .int 0, .ref m15, .ref m16, .ref m17, .int 0, .int 0, .ref m18, .ref m19, .ref m20, .int 0, .ref m21]))] := hD
  refine lv_aload_n hx hb dX7_begin_13 rfl (lv_at hl 0 rfl) ?_
  refine lv_iconst (v := 0) hx hb dX7_begin_14 (by decide) ?_
  refine va_put (D := (dC, dI)) (ci := 7) (v := .int 0) (ty := .int) (C := RX7) (T := TX7) (N := 39) hx hb hg i_X7 tyX7 tyX7_ok nmX7 hown hK hP hD hS 0 rfl rfl 4 (by decide) (hg _ k_227) (fun _ h9 => h9) rfl (by decide +kernel) rfl rfl (Nat.le_of_ble_eq_true rfl) dX7_begin_15 (fun H locs hP hD hS => ?_)
  have hP : va_P (dC, dI) vwCl [(h0, .inr (7, [.int 0, .ref m1, .int 0, .int 0, .int 0, .int 0, .int (-1), .int 0, .int 0, .ref m2, .ref m3, .ref m4, .int 0, .ref m5, .ref m6, .ref m7, .int 0, .ref m8, .ref m9, .ref m10, .int 0, .int 0, .ref m11, .ref m12, .ref m13, .int 0, .int 0, .ref m14, .int 0, .ref m15, .ref m16, .ref m17, .int 0, .int 0, .ref m18, .ref m19, .ref m20, .int 0, .ref m21]))] H := hP
  have hD : va_D A [(h0, .inr (7, [.int 0, .ref m1, .int 0, .int 0, .int 0, .int 0, .int (-1), .int 0, .int 0, .ref m2, .ref m3, .ref m4, .int 0, .ref m5, .ref m6, .ref m7, .int 0, .ref m8, .ref m9, .ref m10, .int 0, .int 0, .ref m11, .ref m12, .ref m13, .int 0, .int 0, .ref m14, .int 0, .ref m15, .ref m16, .ref m17, .int 0, .int 0, .ref m18, .ref m19, .ref m20, .int 0, .ref m21]))] := hD
  refine lv_aload_n hx hb dX7_begin_18 rfl (lv_at hl 0 rfl) ?_
  refine lv_iconst (v := 0) hx hb dX7_begin_19 (by decide) ?_
  refine va_put (D := (dC, dI)) (ci := 7) (v := .int 0) (ty := .boolean) (C := RX7) (T := TX7) (N := 39) hx hb hg i_X7 tyX7 tyX7_ok nmX7 hown hK hP hD hS 0 rfl rfl 5 (by decide) (hg _ k_229) (fun _ h9 => h9) rfl (by decide +kernel) rfl rfl (Nat.le_of_ble_eq_true rfl) dX7_begin_20 (fun H locs hP hD hS => ?_)
  have hP : va_P (dC, dI) vwCl [(h0, .inr (7, [.int 0, .ref m1, .int 0, .int 0, .int 0, .int 0, .int (-1), .int 0, .int 0, .ref m2, .ref m3, .ref m4, .int 0, .ref m5, .ref m6, .ref m7, .int 0, .ref m8, .ref m9, .ref m10, .int 0, .int 0, .ref m11, .ref m12, .ref m13, .int 0, .int 0, .ref m14, .int 0, .ref m15, .ref m16, .ref m17, .int 0, .int 0, .ref m18, .ref m19, .ref m20, .int 0, .ref m21]))] H := hP
  have hD : va_D A [(h0, .inr (7, [.int 0, .ref m1, .int 0, .int 0, .int 0, .int 0, .int (-1), .int 0, .int 0, .ref m2, .ref m3, .ref m4, .int 0, .ref m5, .ref m6, .ref m7, .int 0, .ref m8, .ref m9, .ref m10, .int 0, .int 0, .ref m11, .ref m12, .ref m13, .int 0, .int 0, .ref m14, .int 0, .ref m15, .ref m16, .ref m17, .int 0, .int 0, .ref m18, .ref m19, .ref m20, .int 0, .ref m21]))] := hD
  refine lv_aload_n hx hb dX7_begin_23 rfl (lv_at hl 0 rfl) ?_
  refine lv_iconst (v := (-1)) hx hb dX7_begin_24 (by decide) ?_
  refine va_put (D := (dC, dI)) (ci := 7) (v := .int (-1)) (ty := .int) (C := RX7) (T := TX7) (N := 39) hx hb hg i_X7 tyX7 tyX7_ok nmX7 hown hK hP hD hS 0 rfl rfl 6 (by decide) (hg _ k_99) (fun _ h9 => h9) rfl (by decide +kernel) rfl rfl (Nat.le_of_ble_eq_true rfl) dX7_begin_25 (fun H locs hP hD hS => ?_)
  have hP : va_P (dC, dI) vwCl [(h0, .inr (7, [.int 0, .ref m1, .int 0, .int 0, .int 0, .int 0, .int (-1), .int 0, .int 0, .ref m2, .ref m3, .ref m4, .int 0, .ref m5, .ref m6, .ref m7, .int 0, .ref m8, .ref m9, .ref m10, .int 0, .int 0, .ref m11, .ref m12, .ref m13, .int 0, .int 0, .ref m14, .int 0, .ref m15, .ref m16, .ref m17, .int 0, .int 0, .ref m18, .ref m19, .ref m20, .int 0, .ref m21]))] H := hP
  have hD : va_D A [(h0, .inr (7, [.int 0, .ref m1, .int 0, .int 0, .int 0, .int 0, .int (-1), .int 0, .int 0, .ref m2, .ref m3, .ref m4, .int 0, .ref m5, .ref m6, .ref m7, .int 0, .ref m8, .ref m9, .ref m10, .int 0, .int 0, .ref m11, .ref m12, .ref m13, .int 0, .int 0, .ref m14, .int 0, .ref m15, .ref m16, .ref m17, .int 0, .int 0, .ref m18, .ref m19, .ref m20, .int 0, .ref m21]))] := hD
  refine lv_aload_n hx hb dX7_begin_28 rfl (lv_at hl 0 rfl) ?_
  refine lv_iconst (v := 0) hx hb dX7_begin_29 (by decide) ?_
  refine va_put (D := (dC, dI)) (ci := 7) (v := .int 0) (ty := .int) (C := RX7) (T := TX7) (N := 39) hx hb hg i_X7 tyX7 tyX7_ok nmX7 hown hK hP hD hS 0 rfl rfl 7 (by decide) (hg _ k_232) (fun _ h9 => h9) rfl (by decide +kernel) rfl rfl (Nat.le_of_ble_eq_true rfl) dX7_begin_30 (fun H locs hP hD hS => ?_)
  have hP : va_P (dC, dI) vwCl [(h0, .inr (7, [.int 0, .ref m1, .int 0, .int 0, .int 0, .int 0, .int (-1), .int 0, .int 0, .ref m2, .ref m3, .ref m4, .int 0, .ref m5, .ref m6, .ref m7, .int 0, .ref m8, .ref m9, .ref m10, .int 0, .int 0, .ref m11, .ref m12, .ref m13, .int 0, .int 0, .ref m14, .int 0, .ref m15, .ref m16, .ref m17, .int 0, .int 0, .ref m18, .ref m19, .ref m20, .int 0, .ref m21]))] H := hP
  have hD : va_D A [(h0, .inr (7, [.int 0, .ref m1, .int 0, .int 0, .int 0, .int 0, .int (-1), .int 0, .int 0, .ref m2, .ref m3, .ref m4, .int 0, .ref m5, .ref m6, .ref m7, .int 0, .ref m8, .ref m9, .ref m10, .int 0, .int 0, .ref m11, .ref m12, .ref m13, .int 0, .int 0, .ref m14, .int 0, .ref m15, .ref m16, .ref m17, .int 0, .int 0, .ref m18, .ref m19, .ref m20, .int 0, .ref m21]))] := hD
  refine lv_aload_n hx hb dX7_begin_33 rfl (lv_at hl 0 rfl) ?_
  refine lv_iconst (v := 0) hx hb dX7_begin_34 (by decide) ?_
  refine va_put (D := (dC, dI)) (ci := 7) (v := .int 0) (ty := .int) (C := RX7) (T := TX7) (N := 39) hx hb hg i_X7 tyX7 tyX7_ok nmX7 hown hK hP hD hS 0 rfl rfl 8 (by decide) (hg _ k_233) (fun _ h9 => h9) rfl (by decide +kernel) rfl rfl (Nat.le_of_ble_eq_true rfl) dX7_begin_35 (fun H locs hP hD hS => ?_)
  have hP : va_P (dC, dI) vwCl [(h0, .inr (7, [.int 0, .ref m1, .int 0, .int 0, .int 0, .int 0, .int (-1), .int 0, .int 0, .ref m2, .ref m3, .ref m4, .int 0, .ref m5, .ref m6, .ref m7, .int 0, .ref m8, .ref m9, .ref m10, .int 0, .int 0, .ref m11, .ref m12, .ref m13, .int 0, .int 0, .ref m14, .int 0, .ref m15, .ref m16, .ref m17, .int 0, .int 0, .ref m18, .ref m19, .ref m20, .int 0, .ref m21]))] H := hP
  have hD : va_D A [(h0, .inr (7, [.int 0, .ref m1, .int 0, .int 0, .int 0, .int 0, .int (-1), .int 0, .int 0, .ref m2, .ref m3, .ref m4, .int 0, .ref m5, .ref m6, .ref m7, .int 0, .ref m8, .ref m9, .ref m10, .int 0, .int 0, .ref m11, .ref m12, .ref m13, .int 0, .int 0, .ref m14, .int 0, .ref m15, .ref m16, .ref m17, .int 0, .int 0, .ref m18, .ref m19, .ref m20, .int 0, .ref m21]))] := hD
  refine lv_aload_n hx hb dX7_begin_38 rfl (lv_at hl 0 rfl) ?_
  refine lv_iconst (v := 0) hx hb dX7_begin_39 (by decide) ?_
  refine va_put (D := (dC, dI)) (ci := 7) (v := .int 0) (ty := .int) (C := RX7) (T := TX7) (N := 39) hx hb hg i_X7 tyX7 tyX7_ok nmX7 hown hK hP hD hS 0 rfl rfl 12 (by decide) (hg _ k_234) (fun _ h9 => h9) rfl (by decide +kernel) rfl rfl (Nat.le_of_ble_eq_true rfl) dX7_begin_40 (fun H locs hP hD hS => ?_)
  have hP : va_P (dC, dI) vwCl [(h0, .inr (7, [.int 0, .ref m1, .int 0, .int 0, .int 0, .int 0, .int (-1), .int 0, .int 0, .ref m2, .ref m3, .ref m4, .int 0, .ref m5, .ref m6, .ref m7, .int 0, .ref m8, .ref m9, .ref m10, .int 0, .int 0, .ref m11, .ref m12, .ref m13, .int 0, .int 0, .ref m14, .int 0, .ref m15, .ref m16, .ref m17, .int 0, .int 0, .ref m18, .ref m19, .ref m20, .int 0, .ref m21]))] H := hP
  have hD : va_D A [(h0, .inr (7, [.int 0, .ref m1, .int 0, .int 0, .int 0, .int 0, .int (-1), .int 0, .int 0, .ref m2, .ref m3, .ref m4, .int 0, .ref m5, .ref m6, .ref m7, .int 0, .ref m8, .ref m9, .ref m10, .int 0, .int 0, .ref m11, .ref m12, .ref m13, .int 0, .int 0, .ref m14, .int 0, .ref m15, .ref m16, .ref m17, .int 0, .int 0, .ref m18, .ref m19, .ref m20, .int 0, .ref m21]))] := hD
  refine lv_aload_n hx hb dX7_begin_43 rfl (lv_at hl 0 rfl) ?_
  refine lv_iconst (v := 0) hx hb dX7_begin_44 (by decide) ?_
  refine va_put (D := (dC, dI)) (ci := 7) (v := .int 0) (ty := .int) (C := RX7) (T := TX7) (N := 39) hx hb hg i_X7 tyX7 tyX7_ok nmX7 hown hK hP hD hS 0 rfl rfl 16 (by decide) (hg _ k_235) (fun _ h9 => h9) rfl (by decide +kernel) rfl rfl (Nat.le_of_ble_eq_true rfl) dX7_begin_45 (fun H locs hP hD hS => ?_)
  have hP : va_P (dC, dI) vwCl [(h0, .inr (7, [.int 0, .ref m1, .int 0, .int 0, .int 0, .int 0, .int (-1), .int 0, .int 0, .ref m2, .ref m3, .ref m4, .int 0, .ref m5, .ref m6, .ref m7, .int 0, .ref m8, .ref m9, .ref m10, .int 0, .int 0, .ref m11, .ref m12, .ref m13, .int 0, .int 0, .ref m14, .int 0, .ref m15, .ref m16, .ref m17, .int 0, .int 0, .ref m18, .ref m19, .ref m20, .int 0, .ref m21]))] H := hP
  have hD : va_D A [(h0, .inr (7, [.int 0, .ref m1, .int 0, .int 0, .int 0, .int 0, .int (-1), .int 0, .int 0, .ref m2, .ref m3, .ref m4, .int 0, .ref m5, .ref m6, .ref m7, .int 0, .ref m8, .ref m9, .ref m10, .int 0, .int 0, .ref m11, .ref m12, .ref m13, .int 0, .int 0, .ref m14, .int 0, .ref m15, .ref m16, .ref m17, .int 0, .int 0, .ref m18, .ref m19, .ref m20, .int 0, .ref m21]))] := hD
  refine lv_aload_n hx hb dX7_begin_48 rfl (lv_at hl 0 rfl) ?_
  refine lv_iconst (v := 0) hx hb dX7_begin_49 (by decide) ?_
  refine va_put (D := (dC, dI)) (ci := 7) (v := .int 0) (ty := .int) (C := RX7) (T := TX7) (N := 39) hx hb hg i_X7 tyX7 tyX7_ok nmX7 hown hK hP hD hS 0 rfl rfl 20 (by decide) (hg _ k_230) (fun _ h9 => h9) rfl (by decide +kernel) rfl rfl (Nat.le_of_ble_eq_true rfl) dX7_begin_50 (fun H locs hP hD hS => ?_)
  have hP : va_P (dC, dI) vwCl [(h0, .inr (7, [.int 0, .ref m1, .int 0, .int 0, .int 0, .int 0, .int (-1), .int 0, .int 0, .ref m2, .ref m3, .ref m4, .int 0, .ref m5, .ref m6, .ref m7, .int 0, .ref m8, .ref m9, .ref m10, .int 0, .int 0, .ref m11, .ref m12, .ref m13, .int 0, .int 0, .ref m14, .int 0, .ref m15, .ref m16, .ref m17, .int 0, .int 0, .ref m18, .ref m19, .ref m20, .int 0, .ref m21]))] H := hP
  have hD : va_D A [(h0, .inr (7, [.int 0, .ref m1, .int 0, .int 0, .int 0, .int 0, .int (-1), .int 0, .int 0, .ref m2, .ref m3, .ref m4, .int 0, .ref m5, .ref m6, .ref m7, .int 0, .ref m8, .ref m9, .ref m10, .int 0, .int 0, .ref m11, .ref m12, .ref m13, .int 0, .int 0, .ref m14, .int 0, .ref m15, .ref m16, .ref m17, .int 0, .int 0, .ref m18, .ref m19, .ref m20, .int 0, .ref m21]))] := hD
  refine lv_aload_n hx hb dX7_begin_53 rfl (lv_at hl 0 rfl) ?_
  refine lv_iconst (v := 0) hx hb dX7_begin_54 (by decide) ?_
  refine va_put (D := (dC, dI)) (ci := 7) (v := .int 0) (ty := .int) (C := RX7) (T := TX7) (N := 39) hx hb hg i_X7 tyX7 tyX7_ok nmX7 hown hK hP hD hS 0 rfl rfl 21 (by decide) (hg _ k_236) (fun _ h9 => h9) rfl (by decide +kernel) rfl rfl (Nat.le_of_ble_eq_true rfl) dX7_begin_55 (fun H locs hP hD hS => ?_)
  have hP : va_P (dC, dI) vwCl [(h0, .inr (7, [.int 0, .ref m1, .int 0, .int 0, .int 0, .int 0, .int (-1), .int 0, .int 0, .ref m2, .ref m3, .ref m4, .int 0, .ref m5, .ref m6, .ref m7, .int 0, .ref m8, .ref m9, .ref m10, .int 0, .int 0, .ref m11, .ref m12, .ref m13, .int 0, .int 0, .ref m14, .int 0, .ref m15, .ref m16, .ref m17, .int 0, .int 0, .ref m18, .ref m19, .ref m20, .int 0, .ref m21]))] H := hP
  have hD : va_D A [(h0, .inr (7, [.int 0, .ref m1, .int 0, .int 0, .int 0, .int 0, .int (-1), .int 0, .int 0, .ref m2, .ref m3, .ref m4, .int 0, .ref m5, .ref m6, .ref m7, .int 0, .ref m8, .ref m9, .ref m10, .int 0, .int 0, .ref m11, .ref m12, .ref m13, .int 0, .int 0, .ref m14, .int 0, .ref m15, .ref m16, .ref m17, .int 0, .int 0, .ref m18, .ref m19, .ref m20, .int 0, .ref m21]))] := hD
  refine lv_aload_n hx hb dX7_begin_58 rfl (lv_at hl 0 rfl) ?_
  refine lv_iconst (v := 0) hx hb dX7_begin_59 (by decide) ?_
  refine va_put (D := (dC, dI)) (ci := 7) (v := .int 0) (ty := .int) (C := RX7) (T := TX7) (N := 39) hx hb hg i_X7 tyX7 tyX7_ok nmX7 hown hK hP hD hS 0 rfl rfl 25 (by decide) (hg _ k_237) (fun _ h9 => h9) rfl (by decide +kernel) rfl rfl (Nat.le_of_ble_eq_true rfl) dX7_begin_60 (fun H locs hP hD hS => ?_)
  have hP : va_P (dC, dI) vwCl [(h0, .inr (7, [.int 0, .ref m1, .int 0, .int 0, .int 0, .int 0, .int (-1), .int 0, .int 0, .ref m2, .ref m3, .ref m4, .int 0, .ref m5, .ref m6, .ref m7, .int 0, .ref m8, .ref m9, .ref m10, .int 0, .int 0, .ref m11, .ref m12, .ref m13, .int 0, .int 0, .ref m14, .int 0, .ref m15, .ref m16, .ref m17, .int 0, .int 0, .ref m18, .ref m19, .ref m20, .int 0, .ref m21]))] H := hP
  have hD : va_D A [(h0, .inr (7, [.int 0, .ref m1, .int 0, .int 0, .int 0, .int 0, .int (-1), .int 0, .int 0, .ref m2, .ref m3, .ref m4, .int 0, .ref m5, .ref m6, .ref m7, .int 0, .ref m8, .ref m9, .ref m10, .int 0, .int 0, .ref m11, .ref m12, .ref m13, .int 0, .int 0, .ref m14, .int 0, .ref m15, .ref m16, .ref m17, .int 0, .int 0, .ref m18, .ref m19, .ref m20, .int 0, .ref m21]))] := hD
  refine lv_aload_n hx hb dX7_begin_63 rfl (lv_at hl 0 rfl) ?_
  refine lv_iconst (v := 0) hx hb dX7_begin_64 (by decide) ?_
  refine va_put (D := (dC, dI)) (ci := 7) (v := .int 0) (ty := .int) (C := RX7) (T := TX7) (N := 39) hx hb hg i_X7 tyX7 tyX7_ok nmX7 hown hK hP hD hS 0 rfl rfl 26 (by decide) (hg _ k_238) (fun _ h9 => h9) rfl (by decide +kernel) rfl rfl (Nat.le_of_ble_eq_true rfl) dX7_begin_65 (fun H locs hP hD hS => ?_)
  have hP : va_P (dC, dI) vwCl [(h0, .inr (7, [.int 0, .ref m1, .int 0, .int 0, .int 0, .int 0, .int (-1), .int 0, .int 0, .ref m2, .ref m3, .ref m4, .int 0, .ref m5, .ref m6, .ref m7, .int 0, .ref m8, .ref m9, .ref m10, .int 0, .int 0, .ref m11, .ref m12, .ref m13, .int 0, .int 0, .ref m14, .int 0, .ref m15, .ref m16, .ref m17, .int 0, .int 0, .ref m18, .ref m19, .ref m20, .int 0, .ref m21]))] H := hP
  have hD : va_D A [(h0, .inr (7, [.int 0, .ref m1, .int 0, .int 0, .int 0, .int 0, .int (-1), .int 0, .int 0, .ref m2, .ref m3, .ref m4, .int 0, .ref m5, .ref m6, .ref m7, .int 0, .ref m8, .ref m9, .ref m10, .int 0, .int 0, .ref m11, .ref m12, .ref m13, .int 0, .int 0, .ref m14, .int 0, .ref m15, .ref m16, .ref m17, .int 0, .int 0, .ref m18, .ref m19, .ref m20, .int 0, .ref m21]))] := hD
  refine lv_aload_n hx hb dX7_begin_68 rfl (lv_at hl 0 rfl) ?_
  refine lv_iconst (v := 0) hx hb dX7_begin_69 (by decide) ?_
  refine va_put (D := (dC, dI)) (ci := 7) (v := .int 0) (ty := .int) (C := RX7) (T := TX7) (N := 39) hx hb hg i_X7 tyX7 tyX7_ok nmX7 hown hK hP hD hS 0 rfl rfl 28 (by decide) (hg _ k_239) (fun _ h9 => h9) rfl (by decide +kernel) rfl rfl (Nat.le_of_ble_eq_true rfl) dX7_begin_70 (fun H locs hP hD hS => ?_)
  have hP : va_P (dC, dI) vwCl [(h0, .inr (7, [.int 0, .ref m1, .int 0, .int 0, .int 0, .int 0, .int (-1), .int 0, .int 0, .ref m2, .ref m3, .ref m4, .int 0, .ref m5, .ref m6, .ref m7, .int 0, .ref m8, .ref m9, .ref m10, .int 0, .int 0, .ref m11, .ref m12, .ref m13, .int 0, .int 0, .ref m14, .int 0, .ref m15, .ref m16, .ref m17, .int 0, .int 0, .ref m18, .ref m19, .ref m20, .int 0, .ref m21]))] H := hP
  have hD : va_D A [(h0, .inr (7, [.int 0, .ref m1, .int 0, .int 0, .int 0, .int 0, .int (-1), .int 0, .int 0, .ref m2, .ref m3, .ref m4, .int 0, .ref m5, .ref m6, .ref m7, .int 0, .ref m8, .ref m9, .ref m10, .int 0, .int 0, .ref m11, .ref m12, .ref m13, .int 0, .int 0, .ref m14, .int 0, .ref m15, .ref m16, .ref m17, .int 0, .int 0, .ref m18, .ref m19, .ref m20, .int 0, .ref m21]))] := hD
  refine lv_aload_n hx hb dX7_begin_73 rfl (lv_at hl 0 rfl) ?_
  refine lv_iconst (v := 0) hx hb dX7_begin_74 (by decide) ?_
  refine va_put (D := (dC, dI)) (ci := 7) (v := .int 0) (ty := .boolean) (C := RX7) (T := TX7) (N := 39) hx hb hg i_X7 tyX7 tyX7_ok nmX7 hown hK hP hD hS 0 rfl rfl 33 (by decide) (hg _ k_240) (fun _ h9 => h9) rfl (by decide +kernel) rfl rfl (Nat.le_of_ble_eq_true rfl) dX7_begin_75 (fun H locs hP hD hS => ?_)
  have hP : va_P (dC, dI) vwCl [(h0, .inr (7, [.int 0, .ref m1, .int 0, .int 0, .int 0, .int 0, .int (-1), .int 0, .int 0, .ref m2, .ref m3, .ref m4, .int 0, .ref m5, .ref m6, .ref m7, .int 0, .ref m8, .ref m9, .ref m10, .int 0, .int 0, .ref m11, .ref m12, .ref m13, .int 0, .int 0, .ref m14, .int 0, .ref m15, .ref m16, .ref m17, .int 0, .int 0, .ref m18, .ref m19, .ref m20, .int 0, .ref m21]))] H := hP
  have hD : va_D A [(h0, .inr (7, [.int 0, .ref m1, .int 0, .int 0, .int 0, .int 0, .int (-1), .int 0, .int 0, .ref m2, .ref m3, .ref m4, .int 0, .ref m5, .ref m6, .ref m7, .int 0, .ref m8, .ref m9, .ref m10, .int 0, .int 0, .ref m11, .ref m12, .ref m13, .int 0, .int 0, .ref m14, .int 0, .ref m15, .ref m16, .ref m17, .int 0, .int 0, .ref m18, .ref m19, .ref m20, .int 0, .ref m21]))] := hD
  refine lv_aload_n hx hb dX7_begin_78 rfl (lv_at hl 0 rfl) ?_
  refine lv_iconst (v := 0) hx hb dX7_begin_79 (by decide) ?_
  refine va_put (D := (dC, dI)) (ci := 7) (v := .int 0) (ty := .int) (C := RX7) (T := TX7) (N := 39) hx hb hg i_X7 tyX7 tyX7_ok nmX7 hown hK hP hD hS 0 rfl rfl 37 (by decide) (hg _ k_241) (fun _ h9 => h9) rfl (by decide +kernel) rfl rfl (Nat.le_of_ble_eq_true rfl) dX7_begin_80 (fun H locs hP hD hS => ?_)
  have hP : va_P (dC, dI) vwCl [(h0, .inr (7, [.int 0, .ref m1, .int 0, .int 0, .int 0, .int 0, .int (-1), .int 0, .int 0, .ref m2, .ref m3, .ref m4, .int 0, .ref m5, .ref m6, .ref m7, .int 0, .ref m8, .ref m9, .ref m10, .int 0, .int 0, .ref m11, .ref m12, .ref m13, .int 0, .int 0, .ref m14, .int 0, .ref m15, .ref m16, .ref m17, .int 0, .int 0, .ref m18, .ref m19, .ref m20, .int 0, .ref m21]))] H := hP
  have hD : va_D A [(h0, .inr (7, [.int 0, .ref m1, .int 0, .int 0, .int 0, .int 0, .int (-1), .int 0, .int 0, .ref m2, .ref m3, .ref m4, .int 0, .ref m5, .ref m6, .ref m7, .int 0, .ref m8, .ref m9, .ref m10, .int 0, .int 0, .ref m11, .ref m12, .ref m13, .int 0, .int 0, .ref m14, .int 0, .ref m15, .ref m16, .ref m17, .int 0, .int 0, .ref m18, .ref m19, .ref m20, .int 0, .ref m21]))] := hD
  have hP9 := hP.sub (ws' := [(h0, .inr (7, [.int 0, .ref m1, .int 0, .int 0, .int 0, .int 0, .int (-1), .int 0, .int 0, .ref m2, .ref m3, .ref m4, .int 0, .ref m5, .ref m6, .ref m7, .int 0, .ref m8, .ref m9, .ref m10, .int 0, .int 0, .ref m11, .ref m12, .ref m13, .int 0, .int 0, .ref m14, .int 0, .ref m15, .ref m16, .ref m17, .int 0, .int 0, .ref m18, .ref m19, .ref m20, .int 0, .ref m21]))]) [0] rfl
  have hD9 := hD.sub (ws' := [(h0, .inr (7, [.int 0, .ref m1, .int 0, .int 0, .int 0, .int 0, .int (-1), .int 0, .int 0, .ref m2, .ref m3, .ref m4, .int 0, .ref m5, .ref m6, .ref m7, .int 0, .ref m8, .ref m9, .ref m10, .int 0, .int 0, .ref m11, .ref m12, .ref m13, .int 0, .int 0, .ref m14, .int 0, .ref m15, .ref m16, .ref m17, .int 0, .int 0, .ref m18, .ref m19, .ref m20, .int 0, .ref m21]))]) [0] (by decide) rfl
  refine W.widen (k := 0) (n := 0) (Nat.le_of_ble_eq_true rfl) (Nat.le_of_ble_eq_true rfl) ?_
  exact W.vret hx hb hr (fun t ht hW => ⟨⟨(), rfl, trivial, by rw [ht]; exact hP9, hD9⟩, hS.F ht⟩) hS.2.2 dX7_begin_83

set_option maxHeartbeats 4000000 in
set_option maxRecDepth 100000 in
/-- readTerm() of an empty text -/
theorem c_X7_readTerm (l : Launch) (dC : Nat → ClassId) (dI : Nat → Nat → Nat) (cI cZ cL : ClassId) (h0 m8 m9 m10 m18 : Nat) (sz : Nat) (m1 m2 m3 m4 m5 m6 m7 m11 m12 m13 m14 m15 m16 m17 m19 m20 m21 : Nat) : Met l yX7_readTerm (wd yX7_readTerm cX7_readTerm 9 (some .int)) ({ frames := 1, cells := 0, slots := 0, locals := 23 }) (va_Pc [.ref h0] (hp dC dI cI cZ cL sz [(h0, .inr (7, [.int 0, .ref m1, .int 0, .int 0, .int 0, .int 0, .int (-1), .int 0, .int 0, .ref m2, .ref m3, .ref m4, .int 0, .ref m5, .ref m6, .ref m7, .int 0, .ref m8, .ref m9, .ref m10, .int 0, .int 0, .ref m11, .ref m12, .ref m13, .int 0, .int 0, .ref m14, .int 0, .ref m15, .ref m16, .ref m17, .int 0, .int 0, .ref m18, .ref m19, .ref m20, .int 0, .ref m21])), (m8, .inl (cI, 130, .inl zI)), (m9, .inl (cI, 130, .inl zI)), (m10, .inl (cI, 130, .inl zI)), (m18, .inl (cI, 8000, .inl zI))])) (va_Qi (fun (r : Int32) (_ : Unit) => r = -1) (fun (_ : Unit) t => va_P (dC, dI) vwCl [(h0, .inr (7, [.int 0, .ref m1, .int 0, .int 0, .int 0, .int 1, .int 0, .int 0, .int 0, .ref m2, .ref m3, .ref m4, .int 0, .ref m5, .ref m6, .ref m7, .int 0, .ref m8, .ref m9, .ref m10, .int 1, .int 0, .ref m11, .ref m12, .ref m13, .int 0, .int 0, .ref m14, .int 0, .ref m15, .ref m16, .ref m17, .int 0, .int 0, .ref m18, .ref m19, .ref m20, .int 0, .ref m21]))] t.heap ∧ va_D (va_A [(h0, .inr (7, [.int 0, .ref m1, .int 0, .int 0, .int 0, .int 0, .int (-1), .int 0, .int 0, .ref m2, .ref m3, .ref m4, .int 0, .ref m5, .ref m6, .ref m7, .int 0, .ref m8, .ref m9, .ref m10, .int 0, .int 0, .ref m11, .ref m12, .ref m13, .int 0, .int 0, .ref m14, .int 0, .ref m15, .ref m16, .ref m17, .int 0, .int 0, .ref m18, .ref m19, .ref m20, .int 0, .ref m21])), (m8, .inl (cI, 130, .inl zI)), (m9, .inl (cI, 130, .inl zI)), (m10, .inl (cI, 130, .inl zI)), (m18, .inl (cI, 8000, .inl zI))] sz) [(h0, .inr (7, [.int 0, .ref m1, .int 0, .int 0, .int 0, .int 1, .int 0, .int 0, .int 0, .ref m2, .ref m3, .ref m4, .int 0, .ref m5, .ref m6, .ref m7, .int 0, .ref m8, .ref m9, .ref m10, .int 1, .int 0, .ref m11, .ref m12, .ref m13, .int 0, .int 0, .ref m14, .int 0, .ref m15, .ref m16, .ref m17, .int 0, .int 0, .ref m18, .ref m19, .ref m20, .int 0, .ref m21]))]) (va_A [(h0, .inr (7, [.int 0, .ref m1, .int 0, .int 0, .int 0, .int 0, .int (-1), .int 0, .int 0, .ref m2, .ref m3, .ref m4, .int 0, .ref m5, .ref m6, .ref m7, .int 0, .ref m8, .ref m9, .ref m10, .int 0, .int 0, .ref m11, .ref m12, .ref m13, .int 0, .int 0, .ref m14, .int 0, .ref m15, .ref m16, .ref m17, .int 0, .int 0, .ref m18, .ref m19, .ref m20, .int 0, .ref m21])), (m8, .inl (cI, 130, .inl zI)), (m9, .inl (cI, 130, .inl zI)), (m10, .inl (cI, 130, .inl zI)), (m18, .inl (cI, 8000, .inl zI))] sz)) 0 0 (va_A [(h0, .inr (7, [.int 0, .ref m1, .int 0, .int 0, .int 0, .int 0, .int (-1), .int 0, .int 0, .ref m2, .ref m3, .ref m4, .int 0, .ref m5, .ref m6, .ref m7, .int 0, .ref m8, .ref m9, .ref m10, .int 0, .int 0, .ref m11, .ref m12, .ref m13, .int 0, .int 0, .ref m14, .int 0, .ref m15, .ref m16, .ref m17, .int 0, .int 0, .ref m18, .ref m19, .ref m20, .int 0, .ref m21])), (m8, .inl (cI, 130, .inl zI)), (m9, .inl (cI, 130, .inl zI)), (m10, .inl (cI, 130, .inl zI)), (m18, .inl (cI, 8000, .inl zI))] sz) := by
  refine Met.ofW (cc := cX7_readTerm) (maxL := 9) (ret := (some .int)) (by decide) rfl ?_
  intro p e s m args below meth c s₁ B hml hv
  obtain ⟨rfl, hsz, hP, hK, hD0⟩ := hv
  have hx := B.exec
  have hb := B.bytes
  have hr := B.returns
  have hw9 := atoms_spec (ws := (wd yX7_readTerm cX7_readTerm 9 (some .int))) B.pre
  have hg := gw_hts hw9
  have hown : s.vm.findClass RX7 = some m.cls := findClass_of_methodNamed B.named
  have hlocks := B.notSynchronized
  subst hsz
  have hD := hD0.self (sz := s.heap.size)
  generalize hAe : va_A [(h0, .inr (7, [.int 0, .ref m1, .int 0, .int 0, .int 0, .int 0, .int (-1), .int 0, .int 0, .ref m2, .ref m3, .ref m4, .int 0, .ref m5, .ref m6, .ref m7, .int 0, .ref m8, .ref m9, .ref m10, .int 0, .int 0, .ref m11, .ref m12, .ref m13, .int 0, .int 0, .ref m14, .int 0, .ref m15, .ref m16, .ref m17, .int 0, .int 0, .ref m18, .ref m19, .ref m20, .int 0, .ref m21])), (m8, .inl (cI, 130, .inl zI)), (m9, .inl (cI, 130, .inl zI)), (m10, .inl (cI, 130, .inl zI)), (m18, .inl (cI, 8000, .inl zI))] s.heap.size = A at hD ⊢
  have hA : ∀ q : Nat, s.heap.size ≤ q → A q := fun q h => by rw [← hAe]; exact Or.inr h
  have hS : va_S A s.heap s.heap [] := va_S.rf
  have hl := lv_entry ([.ref h0]) (n := 9) (Nat.le_of_ble_eq_true rfl)
  rw [lg_entry_eq]
  generalize (lg_sl ([.ref h0]) ++ List.replicate (9 - (lg_sl ([.ref h0])).length) Slot.unset).toArray = ls at hl ⊢
  have hl : lv_has ls 9 [(0, .ref h0)] := hl
  refine lv_aload_n hx hb dX7_readTerm_0 rfl (lv_at hl 0 rfl) ?_
  refine va_get (D := (dC, dI)) (ci := 7) (v := .ref m18) (C := RX7) (T := TX7) (N := 39) hx hb hg i_X7 hown hK hP 0 rfl rfl 34 (by decide) (hg _ k_117) (fun _ h9 => h9) rfl dX7_readTerm_1 ?_
  refine lv_astore_n (lv' := [(1, .ref m18), (0, .ref h0)]) hx hb dX7_readTerm_4 rfl hl (by decide) rfl (fun ls hl => ?_)
  refine lv_aload_n hx hb dX7_readTerm_5 rfl (lv_at hl 1 rfl) ?_
  refine lv_iconst (v := 0) hx hb dX7_readTerm_6 (by decide) ?_
  refine lv_iconst (v := 0) hx hb dX7_readTerm_7 (by decide) ?_
  refine lv_iconst (v := 0) hx hb dX7_readTerm_8 (by decide) ?_
  have hPc := hP.sub (ws' := [(h0, .inr (7, [.int 0, .ref m1, .int 0, .int 0, .int 0, .int 0, .int (-1), .int 0, .int 0, .ref m2, .ref m3, .ref m4, .int 0, .ref m5, .ref m6, .ref m7, .int 0, .ref m8, .ref m9, .ref m10, .int 0, .int 0, .ref m11, .ref m12, .ref m13, .int 0, .int 0, .ref m14, .int 0, .ref m15, .ref m16, .ref m17, .int 0, .int 0, .ref m18, .ref m19, .ref m20, .int 0, .ref m21])), (m8, .inl (cI, 130, .inl zI)), (m9, .inl (cI, 130, .inl zI)), (m10, .inl (cI, 130, .inl zI))]) [0, 1, 2, 3] rfl
  have hDc := hD.sub (ws' := [(h0, .inr (7, [.int 0, .ref m1, .int 0, .int 0, .int 0, .int 0, .int (-1), .int 0, .int 0, .ref m2, .ref m3, .ref m4, .int 0, .ref m5, .ref m6, .ref m7, .int 0, .ref m8, .ref m9, .ref m10, .int 0, .int 0, .ref m11, .ref m12, .ref m13, .int 0, .int 0, .ref m14, .int 0, .ref m15, .ref m16, .ref m17, .int 0, .int 0, .ref m18, .ref m19, .ref m20, .int 0, .ref m21])), (m8, .inl (cI, 130, .inl zI)), (m9, .inl (cI, 130, .inl zI)), (m10, .inl (cI, 130, .inl zI))]) [0, 1, 2, 3] (by decide) rfl
  have hFc := va_free (wc := [(h0, .inr (7, [.int 0, .ref m1, .int 0, .int 0, .int 0, .int 0, .int (-1), .int 0, .int 0, .ref m2, .ref m3, .ref m4, .int 0, .ref m5, .ref m6, .ref m7, .int 0, .ref m8, .ref m9, .ref m10, .int 0, .int 0, .ref m11, .ref m12, .ref m13, .int 0, .int 0, .ref m14, .int 0, .ref m15, .ref m16, .ref m17, .int 0, .int 0, .ref m18, .ref m19, .ref m20, .int 0, .ref m21])), (m8, .inl (cI, 130, .inl zI)), (m9, .inl (cI, 130, .inl zI)), (m10, .inl (cI, 130, .inl zI))]) hD hS hA [0, 1, 2, 3] rfl
  refine va_callv (va_runV (As := [.int 0, .int 0, .int 0]) (rest := []) ⟨hx, hb, hml, hown, hg⟩ (c_X7_open l dC dI cI cZ cL h0 m8 m9 m10 (Array.size _) m1 m2 m3 m4 m5 m6 m7 m11 m12 m13 m14 m15 m16 m17 m18 m19 m20 m21) (cwV 3 hg (gw_V k_242 k_243 k_244 k_245 g_yX7_open) rfl rfl rfl (by decide +kernel) ⟨(Nat.le_of_ble_eq_true rfl), (Nat.le_of_ble_eq_true rfl)⟩) ⟨hp_bl, va_recv hK hPc (ci := 7) (q0 := 0) rfl rfl, fun U hU hW => hp_ok hU hW hPc hK hDc⟩ rfl rfl hl.1 rfl (lv_room (Nat.le_of_ble_eq_true rfl)) dX7_readTerm_9 ⟨(Nat.le_of_ble_eq_true rfl), (Nat.le_of_ble_eq_true rfl)⟩) hS (fun q _ h => hFc q h) hFc (fun u t H locs ht hvm hw hB hz1 hk1 hS => ?_)
  obtain ⟨hP1, hD1⟩ := hB
  rw [ht] at hP1
  obtain ⟨hP, hD⟩ := va_join (wr := [(m18, .inl (cI, 8000, .inl zI))]) (w1 := [(h0, .inr (7, [.int 0, .ref m1, .int 0, .int 0, .int 0, .int 0, .int (-1), .int 0, .int 0, .ref m2, .ref m3, .ref m4, .int 0, .ref m5, .ref m6, .ref m7, .int 0, .ref m8, .ref m9, .ref m10, .int 1, .int 0, .ref m11, .ref m12, .ref m13, .int 0, .int 0, .ref m14, .int 0, .ref m15, .ref m16, .ref m17, .int 0, .int 0, .ref m18, .ref m19, .ref m20, .int 0, .ref m21]))]) hP hD [0, 1, 2, 3] [4] rfl rfl (by decide) (by decide) hk1 hFc hP1 hD1
  have hP : va_P (dC, dI) vwCl [(m18, .inl (cI, 8000, .inl zI)), (h0, .inr (7, [.int 0, .ref m1, .int 0, .int 0, .int 0, .int 0, .int (-1), .int 0, .int 0, .ref m2, .ref m3, .ref m4, .int 0, .ref m5, .ref m6, .ref m7, .int 0, .ref m8, .ref m9, .ref m10, .int 1, .int 0, .ref m11, .ref m12, .ref m13, .int 0, .int 0, .ref m14, .int 0, .ref m15, .ref m16, .ref m17, .int 0, .int 0, .ref m18, .ref m19, .ref m20, .int 0, .ref m21]))] H := hP
  have hD : va_D A [(m18, .inl (cI, 8000, .inl zI)), (h0, .inr (7, [.int 0, .ref m1, .int 0, .int 0, .int 0, .int 0, .int (-1), .int 0, .int 0, .ref m2, .ref m3, .ref m4, .int 0, .ref m5, .ref m6, .ref m7, .int 0, .ref m8, .ref m9, .ref m10, .int 1, .int 0, .ref m11, .ref m12, .ref m13, .int 0, .int 0, .ref m14, .int 0, .ref m15, .ref m16, .ref m17, .int 0, .int 0, .ref m18, .ref m19, .ref m20, .int 0, .ref m21]))] := hD
  refine W.widen (k := 0) (n := 0) (Nat.le_of_ble_eq_true rfl) (Nat.le_of_ble_eq_true rfl) ?_
  refine lv_aload_n hx hb dX7_readTerm_12 rfl (lv_at hl 0 rfl) ?_
  refine lv_iconst (v := 0) hx hb dX7_readTerm_13 (by decide) ?_
  refine lv_iconst (v := (-1)) hx hb dX7_readTerm_14 (by decide) ?_
  refine va_iast hx hb hK hP hD hS 0 0 rfl rfl (vp_lit (by decide) (by decide)) dX7_readTerm_15 (fun H locs hP hD hS => ?_)
  generalize upd zI (Int32.toNatClampNeg 0) ((-1) : Int32) = f1 at hP hD
  have hP : va_P (dC, dI) vwCl [(m18, .inl (cI, 8000, .inl f1)), (h0, .inr (7, [.int 0, .ref m1, .int 0, .int 0, .int 0, .int 0, .int (-1), .int 0, .int 0, .ref m2, .ref m3, .ref m4, .int 0, .ref m5, .ref m6, .ref m7, .int 0, .ref m8, .ref m9, .ref m10, .int 1, .int 0, .ref m11, .ref m12, .ref m13, .int 0, .int 0, .ref m14, .int 0, .ref m15, .ref m16, .ref m17, .int 0, .int 0, .ref m18, .ref m19, .ref m20, .int 0, .ref m21]))] H := hP
  have hD : va_D A [(m18, .inl (cI, 8000, .inl f1)), (h0, .inr (7, [.int 0, .ref m1, .int 0, .int 0, .int 0, .int 0, .int (-1), .int 0, .int 0, .ref m2, .ref m3, .ref m4, .int 0, .ref m5, .ref m6, .ref m7, .int 0, .ref m8, .ref m9, .ref m10, .int 1, .int 0, .ref m11, .ref m12, .ref m13, .int 0, .int 0, .ref m14, .int 0, .ref m15, .ref m16, .ref m17, .int 0, .int 0, .ref m18, .ref m19, .ref m20, .int 0, .ref m21]))] := hD
  refine lv_aload_n hx hb dX7_readTerm_16 rfl (lv_at hl 1 rfl) ?_
  refine va_get (D := (dC, dI)) (ci := 7) (v := .int 0) (C := RX7) (T := TX7) (N := 39) hx hb hg i_X7 hown hK hP 1 rfl rfl 5 (by decide) (hg _ k_229) (fun _ h9 => h9) rfl dX7_readTerm_17 ?_
  refine lv_if_ne (tgt := 485) hx hb dX7_readTerm_20 (by decide) (fun c9 => absurd c9 (by decide)) (fun _ => ?_)
  refine lv_aload_n hx hb dX7_readTerm_23 rfl (lv_at hl 1 rfl) ?_
  have hPc := hP.sub (ws' := [(h0, .inr (7, [.int 0, .ref m1, .int 0, .int 0, .int 0, .int 0, .int (-1), .int 0, .int 0, .ref m2, .ref m3, .ref m4, .int 0, .ref m5, .ref m6, .ref m7, .int 0, .ref m8, .ref m9, .ref m10, .int 1, .int 0, .ref m11, .ref m12, .ref m13, .int 0, .int 0, .ref m14, .int 0, .ref m15, .ref m16, .ref m17, .int 0, .int 0, .ref m18, .ref m19, .ref m20, .int 0, .ref m21]))]) [1] rfl
  have hDc := hD.sub (ws' := [(h0, .inr (7, [.int 0, .ref m1, .int 0, .int 0, .int 0, .int 0, .int (-1), .int 0, .int 0, .ref m2, .ref m3, .ref m4, .int 0, .ref m5, .ref m6, .ref m7, .int 0, .ref m8, .ref m9, .ref m10, .int 1, .int 0, .ref m11, .ref m12, .ref m13, .int 0, .int 0, .ref m14, .int 0, .ref m15, .ref m16, .ref m17, .int 0, .int 0, .ref m18, .ref m19, .ref m20, .int 0, .ref m21]))]) [1] (by decide) rfl
  have hFc := va_free (wc := [(h0, .inr (7, [.int 0, .ref m1, .int 0, .int 0, .int 0, .int 0, .int (-1), .int 0, .int 0, .ref m2, .ref m3, .ref m4, .int 0, .ref m5, .ref m6, .ref m7, .int 0, .ref m8, .ref m9, .ref m10, .int 1, .int 0, .ref m11, .ref m12, .ref m13, .int 0, .int 0, .ref m14, .int 0, .ref m15, .ref m16, .ref m17, .int 0, .int 0, .ref m18, .ref m19, .ref m20, .int 0, .ref m21]))]) hD hS hA [1] rfl
  refine va_calli (va_runV (As := []) (rest := []) ⟨hx, hb, hml, hown, hg⟩ (c_X7_see l dC dI cI cZ cL h0 (Array.size _) m1 m2 m3 m4 m5 m6 m7 m8 m9 m10 m11 m12 m13 m14 m15 m16 m17 m18 m19 m20 m21) (cwV 0 hg (gw_V k_246 k_247 k_248 k_245 g_yX7_see) rfl rfl rfl (by decide +kernel) ⟨(Nat.le_of_ble_eq_true rfl), (Nat.le_of_ble_eq_true rfl)⟩) ⟨hp_bl, va_recv hK hPc (ci := 7) (q0 := 0) rfl rfl, fun U hU hW => hp_ok hU hW hPc hK hDc⟩ rfl rfl hl.1 rfl (lv_room (Nat.le_of_ble_eq_true rfl)) dX7_readTerm_24 ⟨(Nat.le_of_ble_eq_true rfl), (Nat.le_of_ble_eq_true rfl)⟩) hS (fun q _ h => hFc q h) hFc (fun r9 u t H locs ht hvm hw hB hz1 hk1 hS => ?_)
  obtain ⟨hP1, hD1⟩ := hB
  rw [ht] at hP1
  obtain ⟨hP, hD⟩ := va_join (wr := [(m18, .inl (cI, 8000, .inl f1))]) (w1 := [(h0, .inr (7, [.int 0, .ref m1, .int 0, .int 0, .int 0, .int 0, .int (-1), .int 0, .int 0, .ref m2, .ref m3, .ref m4, .int 0, .ref m5, .ref m6, .ref m7, .int 0, .ref m8, .ref m9, .ref m10, .int 1, .int 0, .ref m11, .ref m12, .ref m13, .int 0, .int 0, .ref m14, .int 0, .ref m15, .ref m16, .ref m17, .int 0, .int 0, .ref m18, .ref m19, .ref m20, .int 0, .ref m21]))]) hP hD [1] [0] rfl rfl (by decide) (by decide) hk1 hFc hP1 hD1
  have hP : va_P (dC, dI) vwCl [(m18, .inl (cI, 8000, .inl f1)), (h0, .inr (7, [.int 0, .ref m1, .int 0, .int 0, .int 0, .int 0, .int (-1), .int 0, .int 0, .ref m2, .ref m3, .ref m4, .int 0, .ref m5, .ref m6, .ref m7, .int 0, .ref m8, .ref m9, .ref m10, .int 1, .int 0, .ref m11, .ref m12, .ref m13, .int 0, .int 0, .ref m14, .int 0, .ref m15, .ref m16, .ref m17, .int 0, .int 0, .ref m18, .ref m19, .ref m20, .int 0, .ref m21]))] H := hP
  have hD : va_D A [(m18, .inl (cI, 8000, .inl f1)), (h0, .inr (7, [.int 0, .ref m1, .int 0, .int 0, .int 0, .int 0, .int (-1), .int 0, .int 0, .ref m2, .ref m3, .ref m4, .int 0, .ref m5, .ref m6, .ref m7, .int 0, .ref m8, .ref m9, .ref m10, .int 1, .int 0, .ref m11, .ref m12, .ref m13, .int 0, .int 0, .ref m14, .int 0, .ref m15, .ref m16, .ref m17, .int 0, .int 0, .ref m18, .ref m19, .ref m20, .int 0, .ref m21]))] := hD
  refine W.widen (k := 0) (n := 0) (Nat.le_of_ble_eq_true rfl) (Nat.le_of_ble_eq_true rfl) ?_
  obtain rfl : r9 = (-1) := hw
  refine lv_istore_n (lv' := [(3, .int (-1)), (1, .ref m18), (0, .ref h0)]) hx hb dX7_readTerm_27 rfl hl (by decide) rfl (fun ls hl => ?_)
  refine lv_iconst (v := (-1)) hx hb dX7_readTerm_28 (by decide) ?_
  refine lv_istore_n (lv' := [(2, .int (-1)), (3, .int (-1)), (1, .ref m18), (0, .ref h0)]) hx hb dX7_readTerm_29 rfl hl (by decide) rfl (fun ls hl => ?_)
  refine lv_iload_n hx hb dX7_readTerm_30 rfl (lv_at hl 1 rfl) ?_
  refine lv_bipush (v := 49) hx hb dX7_readTerm_31 (by decide) ?_
  refine lv_icmp_ne (tgt := 57) hx hb dX7_readTerm_33 (by decide) (fun _ => ?_) (fun c9 => absurd c9 (by decide))
  refine lv_iload_n hx hb dX7_readTerm_57 rfl (lv_at hl 1 rfl) ?_
  have hPc := hP.sub (ws' := []) [] rfl
  have hDc := hD.sub (ws' := []) [] (by decide) rfl
  have hFc := va_free (wc := []) hD hS hA [] rfl
  refine va_calli (va_runS (As := [.int (-1)]) (rest := []) ⟨hx, hb, hml, hown, hg⟩ (c_X7_isLetter l dC dI cI cZ cL  (Array.size _)) (va_cwS 1 hg (gw_S k_249 k_250 k_245 g_yX7_isLetter) rfl rfl rfl (by decide +kernel) ⟨(Nat.le_of_ble_eq_true rfl), (Nat.le_of_ble_eq_true rfl)⟩) ⟨hp_bl, fun U hU hW => hp_ok hU hW hPc hK hDc⟩ rfl rfl hl.1 rfl (lv_room (Nat.le_of_ble_eq_true rfl)) dX7_readTerm_58 ⟨(Nat.le_of_ble_eq_true rfl), (Nat.le_of_ble_eq_true rfl)⟩) hS (fun q _ h => hFc q h) hFc (fun r9 u t H locs ht hvm hw hB hz1 hk1 hS => ?_)
  obtain ⟨hP1, hD1⟩ := hB
  rw [ht] at hP1
  obtain ⟨hP, hD⟩ := va_join (wr := [(m18, .inl (cI, 8000, .inl f1)), (h0, .inr (7, [.int 0, .ref m1, .int 0, .int 0, .int 0, .int 0, .int (-1), .int 0, .int 0, .ref m2, .ref m3, .ref m4, .int 0, .ref m5, .ref m6, .ref m7, .int 0, .ref m8, .ref m9, .ref m10, .int 1, .int 0, .ref m11, .ref m12, .ref m13, .int 0, .int 0, .ref m14, .int 0, .ref m15, .ref m16, .ref m17, .int 0, .int 0, .ref m18, .ref m19, .ref m20, .int 0, .ref m21]))]) (w1 := []) hP hD [] [0, 1] rfl rfl (by decide) (by decide) hk1 hFc hP1 hD1
  have hP : va_P (dC, dI) vwCl [(m18, .inl (cI, 8000, .inl f1)), (h0, .inr (7, [.int 0, .ref m1, .int 0, .int 0, .int 0, .int 0, .int (-1), .int 0, .int 0, .ref m2, .ref m3, .ref m4, .int 0, .ref m5, .ref m6, .ref m7, .int 0, .ref m8, .ref m9, .ref m10, .int 1, .int 0, .ref m11, .ref m12, .ref m13, .int 0, .int 0, .ref m14, .int 0, .ref m15, .ref m16, .ref m17, .int 0, .int 0, .ref m18, .ref m19, .ref m20, .int 0, .ref m21]))] H := hP
  have hD : va_D A [(m18, .inl (cI, 8000, .inl f1)), (h0, .inr (7, [.int 0, .ref m1, .int 0, .int 0, .int 0, .int 0, .int (-1), .int 0, .int 0, .ref m2, .ref m3, .ref m4, .int 0, .ref m5, .ref m6, .ref m7, .int 0, .ref m8, .ref m9, .ref m10, .int 1, .int 0, .ref m11, .ref m12, .ref m13, .int 0, .int 0, .ref m14, .int 0, .ref m15, .ref m16, .ref m17, .int 0, .int 0, .ref m18, .ref m19, .ref m20, .int 0, .ref m21]))] := hD
  refine W.widen (k := 0) (n := 0) (Nat.le_of_ble_eq_true rfl) (Nat.le_of_ble_eq_true rfl) ?_
  obtain rfl : r9 = 0 := hw
  refine lv_if_eq (tgt := 103) hx hb dX7_readTerm_61 (by decide) (fun _ => ?_) (fun c9 => absurd (by decide) c9)
  refine lv_iload_n hx hb dX7_readTerm_103 rfl (lv_at hl 1 rfl) ?_
  refine lv_bipush (v := 92) hx hb dX7_readTerm_104 (by decide) ?_
  refine lv_icmp_ne (tgt := 133) hx hb dX7_readTerm_106 (by decide) (fun _ => ?_) (fun c9 => absurd c9 (by decide))
  refine lv_iload_n hx hb dX7_readTerm_133 rfl (lv_at hl 1 rfl) ?_
  refine lv_bipush (v := 40) hx hb dX7_readTerm_134 (by decide) ?_
  refine lv_icmp_ne (tgt := 165) hx hb dX7_readTerm_136 (by decide) (fun _ => ?_) (fun c9 => absurd c9 (by decide))
  refine lv_aload_n hx hb dX7_readTerm_165 rfl (lv_at hl 3 rfl) ?_
  have hPc := hP.sub (ws' := [(h0, .inr (7, [.int 0, .ref m1, .int 0, .int 0, .int 0, .int 0, .int (-1), .int 0, .int 0, .ref m2, .ref m3, .ref m4, .int 0, .ref m5, .ref m6, .ref m7, .int 0, .ref m8, .ref m9, .ref m10, .int 1, .int 0, .ref m11, .ref m12, .ref m13, .int 0, .int 0, .ref m14, .int 0, .ref m15, .ref m16, .ref m17, .int 0, .int 0, .ref m18, .ref m19, .ref m20, .int 0, .ref m21]))]) [1] rfl
  have hDc := hD.sub (ws' := [(h0, .inr (7, [.int 0, .ref m1, .int 0, .int 0, .int 0, .int 0, .int (-1), .int 0, .int 0, .ref m2, .ref m3, .ref m4, .int 0, .ref m5, .ref m6, .ref m7, .int 0, .ref m8, .ref m9, .ref m10, .int 1, .int 0, .ref m11, .ref m12, .ref m13, .int 0, .int 0, .ref m14, .int 0, .ref m15, .ref m16, .ref m17, .int 0, .int 0, .ref m18, .ref m19, .ref m20, .int 0, .ref m21]))]) [1] (by decide) rfl
  have hFc := va_free (wc := [(h0, .inr (7, [.int 0, .ref m1, .int 0, .int 0, .int 0, .int 0, .int (-1), .int 0, .int 0, .ref m2, .ref m3, .ref m4, .int 0, .ref m5, .ref m6, .ref m7, .int 0, .ref m8, .ref m9, .ref m10, .int 1, .int 0, .ref m11, .ref m12, .ref m13, .int 0, .int 0, .ref m14, .int 0, .ref m15, .ref m16, .ref m17, .int 0, .int 0, .ref m18, .ref m19, .ref m20, .int 0, .ref m21]))]) hD hS hA [1] rfl
  refine va_callv (va_runV (As := []) (rest := []) ⟨hx, hb, hml, hown, hg⟩ (c_X7_fail l dC dI cI cZ cL h0 (Array.size _) m1 m2 m3 m4 m5 m6 m7 m8 m9 m10 m11 m12 m13 m14 m15 m16 m17 m18 m19 m20 m21) (cwV 0 hg (gw_V k_251 k_252 k_253 k_245 g_yX7_fail) rfl rfl rfl (by decide +kernel) ⟨(Nat.le_of_ble_eq_true rfl), (Nat.le_of_ble_eq_true rfl)⟩) ⟨hp_bl, va_recv hK hPc (ci := 7) (q0 := 0) rfl rfl, fun U hU hW => hp_ok hU hW hPc hK hDc⟩ rfl rfl hl.1 rfl (lv_room (Nat.le_of_ble_eq_true rfl)) dX7_readTerm_166 ⟨(Nat.le_of_ble_eq_true rfl), (Nat.le_of_ble_eq_true rfl)⟩) hS (fun q _ h => hFc q h) hFc (fun u t H locs ht hvm hw hB hz1 hk1 hS => ?_)
  obtain ⟨hP1, hD1⟩ := hB
  rw [ht] at hP1
  obtain ⟨hP, hD⟩ := va_join (wr := [(m18, .inl (cI, 8000, .inl f1))]) (w1 := [(h0, .inr (7, [.int 0, .ref m1, .int 0, .int 0, .int 0, .int 1, .int 0, .int 0, .int 0, .ref m2, .ref m3, .ref m4, .int 0, .ref m5, .ref m6, .ref m7, .int 0, .ref m8, .ref m9, .ref m10, .int 1, .int 0, .ref m11, .ref m12, .ref m13, .int 0, .int 0, .ref m14, .int 0, .ref m15, .ref m16, .ref m17, .int 0, .int 0, .ref m18, .ref m19, .ref m20, .int 0, .ref m21]))]) hP hD [1] [0] rfl rfl (by decide) (by decide) hk1 hFc hP1 hD1
  have hP : va_P (dC, dI) vwCl [(m18, .inl (cI, 8000, .inl f1)), (h0, .inr (7, [.int 0, .ref m1, .int 0, .int 0, .int 0, .int 1, .int 0, .int 0, .int 0, .ref m2, .ref m3, .ref m4, .int 0, .ref m5, .ref m6, .ref m7, .int 0, .ref m8, .ref m9, .ref m10, .int 1, .int 0, .ref m11, .ref m12, .ref m13, .int 0, .int 0, .ref m14, .int 0, .ref m15, .ref m16, .ref m17, .int 0, .int 0, .ref m18, .ref m19, .ref m20, .int 0, .ref m21]))] H := hP
  have hD : va_D A [(m18, .inl (cI, 8000, .inl f1)), (h0, .inr (7, [.int 0, .ref m1, .int 0, .int 0, .int 0, .int 1, .int 0, .int 0, .int 0, .ref m2, .ref m3, .ref m4, .int 0, .ref m5, .ref m6, .ref m7, .int 0, .ref m8, .ref m9, .ref m10, .int 1, .int 0, .ref m11, .ref m12, .ref m13, .int 0, .int 0, .ref m14, .int 0, .ref m15, .ref m16, .ref m17, .int 0, .int 0, .ref m18, .ref m19, .ref m20, .int 0, .ref m21]))] := hD
  refine W.widen (k := 0) (n := 0) (Nat.le_of_ble_eq_true rfl) (Nat.le_of_ble_eq_true rfl) ?_
  refine lv_aload_n hx hb dX7_readTerm_169 rfl (lv_at hl 3 rfl) ?_
  refine va_get (D := (dC, dI)) (ci := 7) (v := .int 1) (C := RX7) (T := TX7) (N := 39) hx hb hg i_X7 hown hK hP 1 rfl rfl 5 (by decide) (hg _ k_229) (fun _ h9 => h9) rfl dX7_readTerm_170 ?_
  refine lv_if_ne (tgt := 482) hx hb dX7_readTerm_173 (by decide) (fun _ => ?_) (fun c9 => absurd c9 (by decide))
  refine lv_goto (tgt := 16) hx hb dX7_readTerm_482 (by decide) ?_
  refine lv_aload_n hx hb dX7_readTerm_16 rfl (lv_at hl 3 rfl) ?_
  refine va_get (D := (dC, dI)) (ci := 7) (v := .int 1) (C := RX7) (T := TX7) (N := 39) hx hb hg i_X7 hown hK hP 1 rfl rfl 5 (by decide) (hg _ k_229) (fun _ h9 => h9) rfl dX7_readTerm_17 ?_
  refine lv_if_ne (tgt := 485) hx hb dX7_readTerm_20 (by decide) (fun _ => ?_) (fun c9 => absurd c9 (by decide))
  refine lv_iconst (v := (-1)) hx hb dX7_readTerm_485 (by decide) ?_
  have hP9 := hP.sub (ws' := [(h0, .inr (7, [.int 0, .ref m1, .int 0, .int 0, .int 0, .int 1, .int 0, .int 0, .int 0, .ref m2, .ref m3, .ref m4, .int 0, .ref m5, .ref m6, .ref m7, .int 0, .ref m8, .ref m9, .ref m10, .int 1, .int 0, .ref m11, .ref m12, .ref m13, .int 0, .int 0, .ref m14, .int 0, .ref m15, .ref m16, .ref m17, .int 0, .int 0, .ref m18, .ref m19, .ref m20, .int 0, .ref m21]))]) [1] rfl
  have hD9 := hD.sub (ws' := [(h0, .inr (7, [.int 0, .ref m1, .int 0, .int 0, .int 0, .int 1, .int 0, .int 0, .int 0, .ref m2, .ref m3, .ref m4, .int 0, .ref m5, .ref m6, .ref m7, .int 0, .ref m8, .ref m9, .ref m10, .int 1, .int 0, .ref m11, .ref m12, .ref m13, .int 0, .int 0, .ref m14, .int 0, .ref m15, .ref m16, .ref m17, .int 0, .int 0, .ref m18, .ref m19, .ref m20, .int 0, .ref m21]))]) [1] (by decide) rfl
  refine W.widen (k := 0) (n := 0) (Nat.le_of_ble_eq_true rfl) (Nat.le_of_ble_eq_true rfl) ?_
  exact W.iret (v := (-1)) hx hb hr (fun t ht hW => ⟨⟨(-1), (), rfl, rfl, by rw [ht]; exact hP9, hD9⟩, hS.F ht⟩) hS.2.2 dX7_readTerm_486

set_option maxHeartbeats 4000000 in
set_option maxRecDepth 100000 in
/-- readType() of an empty text -/
theorem c_X7_readType (l : Launch) (dC : Nat → ClassId) (dI : Nat → Nat → Nat) (cI cZ cL : ClassId) (h0 m8 m9 m10 : Nat) (sz : Nat) (m1 m2 m3 m4 m5 m6 m7 m11 m12 m13 m14 m15 m16 m17 m18 m19 m20 m21 : Nat) : Met l yX7_readType (wd yX7_readType cX7_readType 5 (some .int)) ({ frames := 1, cells := 0, slots := 0, locals := 23 }) (va_Pc [.ref h0] (hp dC dI cI cZ cL sz [(h0, .inr (7, [.int 0, .ref m1, .int 0, .int 0, .int 0, .int 0, .int (-1), .int 0, .int 0, .ref m2, .ref m3, .ref m4, .int 0, .ref m5, .ref m6, .ref m7, .int 0, .ref m8, .ref m9, .ref m10, .int 0, .int 0, .ref m11, .ref m12, .ref m13, .int 0, .int 0, .ref m14, .int 0, .ref m15, .ref m16, .ref m17, .int 0, .int 0, .ref m18, .ref m19, .ref m20, .int 0, .ref m21])), (m8, .inl (cI, 130, .inl zI)), (m9, .inl (cI, 130, .inl zI)), (m10, .inl (cI, 130, .inl zI))])) (va_Qi (fun (r : Int32) (_ : Unit) => r = -1) (fun (_ : Unit) t => va_P (dC, dI) vwCl [(h0, .inr (7, [.int 0, .ref m1, .int 0, .int 0, .int 0, .int 1, .int 0, .int 0, .int 0, .ref m2, .ref m3, .ref m4, .int 0, .ref m5, .ref m6, .ref m7, .int 0, .ref m8, .ref m9, .ref m10, .int 1, .int 0, .ref m11, .ref m12, .ref m13, .int 0, .int 0, .ref m14, .int 0, .ref m15, .ref m16, .ref m17, .int 0, .int 0, .ref m18, .ref m19, .ref m20, .int 0, .ref m21]))] t.heap ∧ va_D (va_A [(h0, .inr (7, [.int 0, .ref m1, .int 0, .int 0, .int 0, .int 0, .int (-1), .int 0, .int 0, .ref m2, .ref m3, .ref m4, .int 0, .ref m5, .ref m6, .ref m7, .int 0, .ref m8, .ref m9, .ref m10, .int 0, .int 0, .ref m11, .ref m12, .ref m13, .int 0, .int 0, .ref m14, .int 0, .ref m15, .ref m16, .ref m17, .int 0, .int 0, .ref m18, .ref m19, .ref m20, .int 0, .ref m21])), (m8, .inl (cI, 130, .inl zI)), (m9, .inl (cI, 130, .inl zI)), (m10, .inl (cI, 130, .inl zI))] sz) [(h0, .inr (7, [.int 0, .ref m1, .int 0, .int 0, .int 0, .int 1, .int 0, .int 0, .int 0, .ref m2, .ref m3, .ref m4, .int 0, .ref m5, .ref m6, .ref m7, .int 0, .ref m8, .ref m9, .ref m10, .int 1, .int 0, .ref m11, .ref m12, .ref m13, .int 0, .int 0, .ref m14, .int 0, .ref m15, .ref m16, .ref m17, .int 0, .int 0, .ref m18, .ref m19, .ref m20, .int 0, .ref m21]))]) (va_A [(h0, .inr (7, [.int 0, .ref m1, .int 0, .int 0, .int 0, .int 0, .int (-1), .int 0, .int 0, .ref m2, .ref m3, .ref m4, .int 0, .ref m5, .ref m6, .ref m7, .int 0, .ref m8, .ref m9, .ref m10, .int 0, .int 0, .ref m11, .ref m12, .ref m13, .int 0, .int 0, .ref m14, .int 0, .ref m15, .ref m16, .ref m17, .int 0, .int 0, .ref m18, .ref m19, .ref m20, .int 0, .ref m21])), (m8, .inl (cI, 130, .inl zI)), (m9, .inl (cI, 130, .inl zI)), (m10, .inl (cI, 130, .inl zI))] sz)) 0 0 (va_A [(h0, .inr (7, [.int 0, .ref m1, .int 0, .int 0, .int 0, .int 0, .int (-1), .int 0, .int 0, .ref m2, .ref m3, .ref m4, .int 0, .ref m5, .ref m6, .ref m7, .int 0, .ref m8, .ref m9, .ref m10, .int 0, .int 0, .ref m11, .ref m12, .ref m13, .int 0, .int 0, .ref m14, .int 0, .ref m15, .ref m16, .ref m17, .int 0, .int 0, .ref m18, .ref m19, .ref m20, .int 0, .ref m21])), (m8, .inl (cI, 130, .inl zI)), (m9, .inl (cI, 130, .inl zI)), (m10, .inl (cI, 130, .inl zI))] sz) := by
  refine Met.ofW (cc := cX7_readType) (maxL := 5) (ret := (some .int)) (by decide) rfl ?_
  intro p e s m args below meth c s₁ B hml hv
  obtain ⟨rfl, hsz, hP, hK, hD0⟩ := hv
  have hx := B.exec
  have hb := B.bytes
  have hr := B.returns
  have hw9 := atoms_spec (ws := (wd yX7_readType cX7_readType 5 (some .int))) B.pre
  have hg := gw_hts hw9
  have hown : s.vm.findClass RX7 = some m.cls := findClass_of_methodNamed B.named
  have hlocks := B.notSynchronized
  subst hsz
  have hD := hD0.self (sz := s.heap.size)
  generalize hAe : va_A [(h0, .inr (7, [.int 0, .ref m1, .int 0, .int 0, .int 0, .int 0, .int (-1), .int 0, .int 0, .ref m2, .ref m3, .ref m4, .int 0, .ref m5, .ref m6, .ref m7, .int 0, .ref m8, .ref m9, .ref m10, .int 0, .int 0, .ref m11, .ref m12, .ref m13, .int 0, .int 0, .ref m14, .int 0, .ref m15, .ref m16, .ref m17, .int 0, .int 0, .ref m18, .ref m19, .ref m20, .int 0, .ref m21])), (m8, .inl (cI, 130, .inl zI)), (m9, .inl (cI, 130, .inl zI)), (m10, .inl (cI, 130, .inl zI))] s.heap.size = A at hD ⊢
  have hA : ∀ q : Nat, s.heap.size ≤ q → A q := fun q h => by rw [← hAe]; exact Or.inr h
  have hS : va_S A s.heap s.heap [] := va_S.rf
  have hl := lv_entry ([.ref h0]) (n := 5) (Nat.le_of_ble_eq_true rfl)
  rw [lg_entry_eq]
  generalize (lg_sl ([.ref h0]) ++ List.replicate (5 - (lg_sl ([.ref h0])).length) Slot.unset).toArray = ls at hl ⊢
  have hl : lv_has ls 5 [(0, .ref h0)] := hl
  refine lv_aload_n hx hb dX7_readType_0 rfl (lv_at hl 0 rfl) ?_
  refine va_get (D := (dC, dI)) (ci := 7) (v := .int 0) (C := RX7) (T := TX7) (N := 39) hx hb hg i_X7 hown hK hP 0 rfl rfl 20 (by decide) (hg _ k_230) (fun _ h9 => h9) rfl dX7_readType_1 ?_
  refine lv_istore_n (lv' := [(1, .int 0), (0, .ref h0)]) hx hb dX7_readType_4 rfl hl (by decide) rfl (fun ls hl => ?_)
  refine lv_aload_n hx hb dX7_readType_5 rfl (lv_at hl 1 rfl) ?_
  refine lv_iconst (v := 0) hx hb dX7_readType_6 (by decide) ?_
  refine lv_iconst (v := 0) hx hb dX7_readType_7 (by decide) ?_
  refine lv_iconst (v := 0) hx hb dX7_readType_8 (by decide) ?_
  have hPc := hP.sub (ws' := [(h0, .inr (7, [.int 0, .ref m1, .int 0, .int 0, .int 0, .int 0, .int (-1), .int 0, .int 0, .ref m2, .ref m3, .ref m4, .int 0, .ref m5, .ref m6, .ref m7, .int 0, .ref m8, .ref m9, .ref m10, .int 0, .int 0, .ref m11, .ref m12, .ref m13, .int 0, .int 0, .ref m14, .int 0, .ref m15, .ref m16, .ref m17, .int 0, .int 0, .ref m18, .ref m19, .ref m20, .int 0, .ref m21])), (m8, .inl (cI, 130, .inl zI)), (m9, .inl (cI, 130, .inl zI)), (m10, .inl (cI, 130, .inl zI))]) [0, 1, 2, 3] rfl
  have hDc := hD.sub (ws' := [(h0, .inr (7, [.int 0, .ref m1, .int 0, .int 0, .int 0, .int 0, .int (-1), .int 0, .int 0, .ref m2, .ref m3, .ref m4, .int 0, .ref m5, .ref m6, .ref m7, .int 0, .ref m8, .ref m9, .ref m10, .int 0, .int 0, .ref m11, .ref m12, .ref m13, .int 0, .int 0, .ref m14, .int 0, .ref m15, .ref m16, .ref m17, .int 0, .int 0, .ref m18, .ref m19, .ref m20, .int 0, .ref m21])), (m8, .inl (cI, 130, .inl zI)), (m9, .inl (cI, 130, .inl zI)), (m10, .inl (cI, 130, .inl zI))]) [0, 1, 2, 3] (by decide) rfl
  have hFc := va_free (wc := [(h0, .inr (7, [.int 0, .ref m1, .int 0, .int 0, .int 0, .int 0, .int (-1), .int 0, .int 0, .ref m2, .ref m3, .ref m4, .int 0, .ref m5, .ref m6, .ref m7, .int 0, .ref m8, .ref m9, .ref m10, .int 0, .int 0, .ref m11, .ref m12, .ref m13, .int 0, .int 0, .ref m14, .int 0, .ref m15, .ref m16, .ref m17, .int 0, .int 0, .ref m18, .ref m19, .ref m20, .int 0, .ref m21])), (m8, .inl (cI, 130, .inl zI)), (m9, .inl (cI, 130, .inl zI)), (m10, .inl (cI, 130, .inl zI))]) hD hS hA [0, 1, 2, 3] rfl
  refine va_callv (va_runV (As := [.int 0, .int 0, .int 0]) (rest := []) ⟨hx, hb, hml, hown, hg⟩ (c_X7_open l dC dI cI cZ cL h0 m8 m9 m10 (Array.size _) m1 m2 m3 m4 m5 m6 m7 m11 m12 m13 m14 m15 m16 m17 m18 m19 m20 m21) (cwV 3 hg (gw_V k_242 k_243 k_244 k_245 g_yX7_open) rfl rfl rfl (by decide +kernel) ⟨(Nat.le_of_ble_eq_true rfl), (Nat.le_of_ble_eq_true rfl)⟩) ⟨hp_bl, va_recv hK hPc (ci := 7) (q0 := 0) rfl rfl, fun U hU hW => hp_ok hU hW hPc hK hDc⟩ rfl rfl hl.1 rfl (lv_room (Nat.le_of_ble_eq_true rfl)) dX7_readType_9 ⟨(Nat.le_of_ble_eq_true rfl), (Nat.le_of_ble_eq_true rfl)⟩) hS (fun q _ h => hFc q h) hFc (fun u t H locs ht hvm hw hB hz1 hk1 hS => ?_)
  obtain ⟨hP1, hD1⟩ := hB
  rw [ht] at hP1
  obtain ⟨hP, hD⟩ := va_join (wr := []) (w1 := [(h0, .inr (7, [.int 0, .ref m1, .int 0, .int 0, .int 0, .int 0, .int (-1), .int 0, .int 0, .ref m2, .ref m3, .ref m4, .int 0, .ref m5, .ref m6, .ref m7, .int 0, .ref m8, .ref m9, .ref m10, .int 1, .int 0, .ref m11, .ref m12, .ref m13, .int 0, .int 0, .ref m14, .int 0, .ref m15, .ref m16, .ref m17, .int 0, .int 0, .ref m18, .ref m19, .ref m20, .int 0, .ref m21]))]) hP hD [0, 1, 2, 3] [] rfl rfl (by decide) (by decide) hk1 hFc hP1 hD1
  have hP : va_P (dC, dI) vwCl [(h0, .inr (7, [.int 0, .ref m1, .int 0, .int 0, .int 0, .int 0, .int (-1), .int 0, .int 0, .ref m2, .ref m3, .ref m4, .int 0, .ref m5, .ref m6, .ref m7, .int 0, .ref m8, .ref m9, .ref m10, .int 1, .int 0, .ref m11, .ref m12, .ref m13, .int 0, .int 0, .ref m14, .int 0, .ref m15, .ref m16, .ref m17, .int 0, .int 0, .ref m18, .ref m19, .ref m20, .int 0, .ref m21]))] H := hP
  have hD : va_D A [(h0, .inr (7, [.int 0, .ref m1, .int 0, .int 0, .int 0, .int 0, .int (-1), .int 0, .int 0, .ref m2, .ref m3, .ref m4, .int 0, .ref m5, .ref m6, .ref m7, .int 0, .ref m8, .ref m9, .ref m10, .int 1, .int 0, .ref m11, .ref m12, .ref m13, .int 0, .int 0, .ref m14, .int 0, .ref m15, .ref m16, .ref m17, .int 0, .int 0, .ref m18, .ref m19, .ref m20, .int 0, .ref m21]))] := hD
  refine W.widen (k := 0) (n := 0) (Nat.le_of_ble_eq_true rfl) (Nat.le_of_ble_eq_true rfl) ?_
  refine lv_iconst (v := (-1)) hx hb dX7_readType_12 (by decide) ?_
  refine lv_istore_n (lv' := [(2, .int (-1)), (1, .int 0), (0, .ref h0)]) hx hb dX7_readType_13 rfl hl (by decide) rfl (fun ls hl => ?_)
  refine lv_aload_n hx hb dX7_readType_14 rfl (lv_at hl 2 rfl) ?_
  refine va_get (D := (dC, dI)) (ci := 7) (v := .int 0) (C := RX7) (T := TX7) (N := 39) hx hb hg i_X7 hown hK hP 0 rfl rfl 5 (by decide) (hg _ k_229) (fun _ h9 => h9) rfl dX7_readType_15 ?_
  refine lv_if_ne (tgt := 322) hx hb dX7_readType_18 (by decide) (fun c9 => absurd c9 (by decide)) (fun _ => ?_)
  refine lv_aload_n hx hb dX7_readType_21 rfl (lv_at hl 2 rfl) ?_
  have hPc := hP.sub (ws' := [(h0, .inr (7, [.int 0, .ref m1, .int 0, .int 0, .int 0, .int 0, .int (-1), .int 0, .int 0, .ref m2, .ref m3, .ref m4, .int 0, .ref m5, .ref m6, .ref m7, .int 0, .ref m8, .ref m9, .ref m10, .int 1, .int 0, .ref m11, .ref m12, .ref m13, .int 0, .int 0, .ref m14, .int 0, .ref m15, .ref m16, .ref m17, .int 0, .int 0, .ref m18, .ref m19, .ref m20, .int 0, .ref m21]))]) [0] rfl
  have hDc := hD.sub (ws' := [(h0, .inr (7, [.int 0, .ref m1, .int 0, .int 0, .int 0, .int 0, .int (-1), .int 0, .int 0, .ref m2, .ref m3, .ref m4, .int 0, .ref m5, .ref m6, .ref m7, .int 0, .ref m8, .ref m9, .ref m10, .int 1, .int 0, .ref m11, .ref m12, .ref m13, .int 0, .int 0, .ref m14, .int 0, .ref m15, .ref m16, .ref m17, .int 0, .int 0, .ref m18, .ref m19, .ref m20, .int 0, .ref m21]))]) [0] (by decide) rfl
  have hFc := va_free (wc := [(h0, .inr (7, [.int 0, .ref m1, .int 0, .int 0, .int 0, .int 0, .int (-1), .int 0, .int 0, .ref m2, .ref m3, .ref m4, .int 0, .ref m5, .ref m6, .ref m7, .int 0, .ref m8, .ref m9, .ref m10, .int 1, .int 0, .ref m11, .ref m12, .ref m13, .int 0, .int 0, .ref m14, .int 0, .ref m15, .ref m16, .ref m17, .int 0, .int 0, .ref m18, .ref m19, .ref m20, .int 0, .ref m21]))]) hD hS hA [0] rfl
  refine va_calli (va_runV (As := []) (rest := []) ⟨hx, hb, hml, hown, hg⟩ (c_X7_see l dC dI cI cZ cL h0 (Array.size _) m1 m2 m3 m4 m5 m6 m7 m8 m9 m10 m11 m12 m13 m14 m15 m16 m17 m18 m19 m20 m21) (cwV 0 hg (gw_V k_246 k_247 k_248 k_245 g_yX7_see) rfl rfl rfl (by decide +kernel) ⟨(Nat.le_of_ble_eq_true rfl), (Nat.le_of_ble_eq_true rfl)⟩) ⟨hp_bl, va_recv hK hPc (ci := 7) (q0 := 0) rfl rfl, fun U hU hW => hp_ok hU hW hPc hK hDc⟩ rfl rfl hl.1 rfl (lv_room (Nat.le_of_ble_eq_true rfl)) dX7_readType_22 ⟨(Nat.le_of_ble_eq_true rfl), (Nat.le_of_ble_eq_true rfl)⟩) hS (fun q _ h => hFc q h) hFc (fun r9 u t H locs ht hvm hw hB hz1 hk1 hS => ?_)
  obtain ⟨hP1, hD1⟩ := hB
  rw [ht] at hP1
  obtain ⟨hP, hD⟩ := va_join (wr := []) (w1 := [(h0, .inr (7, [.int 0, .ref m1, .int 0, .int 0, .int 0, .int 0, .int (-1), .int 0, .int 0, .ref m2, .ref m3, .ref m4, .int 0, .ref m5, .ref m6, .ref m7, .int 0, .ref m8, .ref m9, .ref m10, .int 1, .int 0, .ref m11, .ref m12, .ref m13, .int 0, .int 0, .ref m14, .int 0, .ref m15, .ref m16, .ref m17, .int 0, .int 0, .ref m18, .ref m19, .ref m20, .int 0, .ref m21]))]) hP hD [0] [] rfl rfl (by decide) (by decide) hk1 hFc hP1 hD1
  have hP : va_P (dC, dI) vwCl [(h0, .inr (7, [.int 0, .ref m1, .int 0, .int 0, .int 0, .int 0, .int (-1), .int 0, .int 0, .ref m2, .ref m3, .ref m4, .int 0, .ref m5, .ref m6, .ref m7, .int 0, .ref m8, .ref m9, .ref m10, .int 1, .int 0, .ref m11, .ref m12, .ref m13, .int 0, .int 0, .ref m14, .int 0, .ref m15, .ref m16, .ref m17, .int 0, .int 0, .ref m18, .ref m19, .ref m20, .int 0, .ref m21]))] H := hP
  have hD : va_D A [(h0, .inr (7, [.int 0, .ref m1, .int 0, .int 0, .int 0, .int 0, .int (-1), .int 0, .int 0, .ref m2, .ref m3, .ref m4, .int 0, .ref m5, .ref m6, .ref m7, .int 0, .ref m8, .ref m9, .ref m10, .int 1, .int 0, .ref m11, .ref m12, .ref m13, .int 0, .int 0, .ref m14, .int 0, .ref m15, .ref m16, .ref m17, .int 0, .int 0, .ref m18, .ref m19, .ref m20, .int 0, .ref m21]))] := hD
  refine W.widen (k := 0) (n := 0) (Nat.le_of_ble_eq_true rfl) (Nat.le_of_ble_eq_true rfl) ?_
  obtain rfl : r9 = (-1) := hw
  refine lv_istore_n (lv' := [(3, .int (-1)), (2, .int (-1)), (1, .int 0), (0, .ref h0)]) hx hb dX7_readType_25 rfl hl (by decide) rfl (fun ls hl => ?_)
  refine lv_iconst (v := (-1)) hx hb dX7_readType_26 (by decide) ?_
  refine lv_istore_n (lv' := [(2, .int (-1)), (3, .int (-1)), (1, .int 0), (0, .ref h0)]) hx hb dX7_readType_27 rfl hl (by decide) rfl (fun ls hl => ?_)
  refine lv_iload_n hx hb dX7_readType_28 rfl (lv_at hl 1 rfl) ?_
  refine lv_bipush (v := 49) hx hb dX7_readType_29 (by decide) ?_
  refine lv_icmp_ne (tgt := 55) hx hb dX7_readType_31 (by decide) (fun _ => ?_) (fun c9 => absurd c9 (by decide))
  refine lv_iload_n hx hb dX7_readType_55 rfl (lv_at hl 1 rfl) ?_
  have hPc := hP.sub (ws' := []) [] rfl
  have hDc := hD.sub (ws' := []) [] (by decide) rfl
  have hFc := va_free (wc := []) hD hS hA [] rfl
  refine va_calli (va_runS (As := [.int (-1)]) (rest := []) ⟨hx, hb, hml, hown, hg⟩ (c_X7_isLetter l dC dI cI cZ cL  (Array.size _)) (va_cwS 1 hg (gw_S k_249 k_250 k_245 g_yX7_isLetter) rfl rfl rfl (by decide +kernel) ⟨(Nat.le_of_ble_eq_true rfl), (Nat.le_of_ble_eq_true rfl)⟩) ⟨hp_bl, fun U hU hW => hp_ok hU hW hPc hK hDc⟩ rfl rfl hl.1 rfl (lv_room (Nat.le_of_ble_eq_true rfl)) dX7_readType_56 ⟨(Nat.le_of_ble_eq_true rfl), (Nat.le_of_ble_eq_true rfl)⟩) hS (fun q _ h => hFc q h) hFc (fun r9 u t H locs ht hvm hw hB hz1 hk1 hS => ?_)
  obtain ⟨hP1, hD1⟩ := hB
  rw [ht] at hP1
  obtain ⟨hP, hD⟩ := va_join (wr := [(h0, .inr (7, [.int 0, .ref m1, .int 0, .int 0, .int 0, .int 0, .int (-1), .int 0, .int 0, .ref m2, .ref m3, .ref m4, .int 0, .ref m5, .ref m6, .ref m7, .int 0, .ref m8, .ref m9, .ref m10, .int 1, .int 0, .ref m11, .ref m12, .ref m13, .int 0, .int 0, .ref m14, .int 0, .ref m15, .ref m16, .ref m17, .int 0, .int 0, .ref m18, .ref m19, .ref m20, .int 0, .ref m21]))]) (w1 := []) hP hD [] [0] rfl rfl (by decide) (by decide) hk1 hFc hP1 hD1
  have hP : va_P (dC, dI) vwCl [(h0, .inr (7, [.int 0, .ref m1, .int 0, .int 0, .int 0, .int 0, .int (-1), .int 0, .int 0, .ref m2, .ref m3, .ref m4, .int 0, .ref m5, .ref m6, .ref m7, .int 0, .ref m8, .ref m9, .ref m10, .int 1, .int 0, .ref m11, .ref m12, .ref m13, .int 0, .int 0, .ref m14, .int 0, .ref m15, .ref m16, .ref m17, .int 0, .int 0, .ref m18, .ref m19, .ref m20, .int 0, .ref m21]))] H := hP
  have hD : va_D A [(h0, .inr (7, [.int 0, .ref m1, .int 0, .int 0, .int 0, .int 0, .int (-1), .int 0, .int 0, .ref m2, .ref m3, .ref m4, .int 0, .ref m5, .ref m6, .ref m7, .int 0, .ref m8, .ref m9, .ref m10, .int 1, .int 0, .ref m11, .ref m12, .ref m13, .int 0, .int 0, .ref m14, .int 0, .ref m15, .ref m16, .ref m17, .int 0, .int 0, .ref m18, .ref m19, .ref m20, .int 0, .ref m21]))] := hD
  refine W.widen (k := 0) (n := 0) (Nat.le_of_ble_eq_true rfl) (Nat.le_of_ble_eq_true rfl) ?_
  obtain rfl : r9 = 0 := hw
  refine lv_if_eq (tgt := 101) hx hb dX7_readType_59 (by decide) (fun _ => ?_) (fun c9 => absurd (by decide) c9)
  refine lv_iload_n hx hb dX7_readType_101 rfl (lv_at hl 1 rfl) ?_
  refine lv_bipush (v := 33) hx hb dX7_readType_102 (by decide) ?_
  refine lv_icmp_ne (tgt := 115) hx hb dX7_readType_104 (by decide) (fun _ => ?_) (fun c9 => absurd c9 (by decide))
  refine lv_iload_n hx hb dX7_readType_115 rfl (lv_at hl 1 rfl) ?_
  refine lv_bipush (v := 40) hx hb dX7_readType_116 (by decide) ?_
  refine lv_icmp_ne (tgt := 138) hx hb dX7_readType_118 (by decide) (fun _ => ?_) (fun c9 => absurd c9 (by decide))
  refine lv_aload_n hx hb dX7_readType_138 rfl (lv_at hl 3 rfl) ?_
  have hPc := hP.sub (ws' := [(h0, .inr (7, [.int 0, .ref m1, .int 0, .int 0, .int 0, .int 0, .int (-1), .int 0, .int 0, .ref m2, .ref m3, .ref m4, .int 0, .ref m5, .ref m6, .ref m7, .int 0, .ref m8, .ref m9, .ref m10, .int 1, .int 0, .ref m11, .ref m12, .ref m13, .int 0, .int 0, .ref m14, .int 0, .ref m15, .ref m16, .ref m17, .int 0, .int 0, .ref m18, .ref m19, .ref m20, .int 0, .ref m21]))]) [0] rfl
  have hDc := hD.sub (ws' := [(h0, .inr (7, [.int 0, .ref m1, .int 0, .int 0, .int 0, .int 0, .int (-1), .int 0, .int 0, .ref m2, .ref m3, .ref m4, .int 0, .ref m5, .ref m6, .ref m7, .int 0, .ref m8, .ref m9, .ref m10, .int 1, .int 0, .ref m11, .ref m12, .ref m13, .int 0, .int 0, .ref m14, .int 0, .ref m15, .ref m16, .ref m17, .int 0, .int 0, .ref m18, .ref m19, .ref m20, .int 0, .ref m21]))]) [0] (by decide) rfl
  have hFc := va_free (wc := [(h0, .inr (7, [.int 0, .ref m1, .int 0, .int 0, .int 0, .int 0, .int (-1), .int 0, .int 0, .ref m2, .ref m3, .ref m4, .int 0, .ref m5, .ref m6, .ref m7, .int 0, .ref m8, .ref m9, .ref m10, .int 1, .int 0, .ref m11, .ref m12, .ref m13, .int 0, .int 0, .ref m14, .int 0, .ref m15, .ref m16, .ref m17, .int 0, .int 0, .ref m18, .ref m19, .ref m20, .int 0, .ref m21]))]) hD hS hA [0] rfl
  refine va_callv (va_runV (As := []) (rest := []) ⟨hx, hb, hml, hown, hg⟩ (c_X7_fail l dC dI cI cZ cL h0 (Array.size _) m1 m2 m3 m4 m5 m6 m7 m8 m9 m10 m11 m12 m13 m14 m15 m16 m17 m18 m19 m20 m21) (cwV 0 hg (gw_V k_251 k_252 k_253 k_245 g_yX7_fail) rfl rfl rfl (by decide +kernel) ⟨(Nat.le_of_ble_eq_true rfl), (Nat.le_of_ble_eq_true rfl)⟩) ⟨hp_bl, va_recv hK hPc (ci := 7) (q0 := 0) rfl rfl, fun U hU hW => hp_ok hU hW hPc hK hDc⟩ rfl rfl hl.1 rfl (lv_room (Nat.le_of_ble_eq_true rfl)) dX7_readType_139 ⟨(Nat.le_of_ble_eq_true rfl), (Nat.le_of_ble_eq_true rfl)⟩) hS (fun q _ h => hFc q h) hFc (fun u t H locs ht hvm hw hB hz1 hk1 hS => ?_)
  obtain ⟨hP1, hD1⟩ := hB
  rw [ht] at hP1
  obtain ⟨hP, hD⟩ := va_join (wr := []) (w1 := [(h0, .inr (7, [.int 0, .ref m1, .int 0, .int 0, .int 0, .int 1, .int 0, .int 0, .int 0, .ref m2, .ref m3, .ref m4, .int 0, .ref m5, .ref m6, .ref m7, .int 0, .ref m8, .ref m9, .ref m10, .int 1, .int 0, .ref m11, .ref m12, .ref m13, .int 0, .int 0, .ref m14, .int 0, .ref m15, .ref m16, .ref m17, .int 0, .int 0, .ref m18, .ref m19, .ref m20, .int 0, .ref m21]))]) hP hD [0] [] rfl rfl (by decide) (by decide) hk1 hFc hP1 hD1
  have hP : va_P (dC, dI) vwCl [(h0, .inr (7, [.int 0, .ref m1, .int 0, .int 0, .int 0, .int 1, .int 0, .int 0, .int 0, .ref m2, .ref m3, .ref m4, .int 0, .ref m5, .ref m6, .ref m7, .int 0, .ref m8, .ref m9, .ref m10, .int 1, .int 0, .ref m11, .ref m12, .ref m13, .int 0, .int 0, .ref m14, .int 0, .ref m15, .ref m16, .ref m17, .int 0, .int 0, .ref m18, .ref m19, .ref m20, .int 0, .ref m21]))] H := hP
  have hD : va_D A [(h0, .inr (7, [.int 0, .ref m1, .int 0, .int 0, .int 0, .int 1, .int 0, .int 0, .int 0, .ref m2, .ref m3, .ref m4, .int 0, .ref m5, .ref m6, .ref m7, .int 0, .ref m8, .ref m9, .ref m10, .int 1, .int 0, .ref m11, .ref m12, .ref m13, .int 0, .int 0, .ref m14, .int 0, .ref m15, .ref m16, .ref m17, .int 0, .int 0, .ref m18, .ref m19, .ref m20, .int 0, .ref m21]))] := hD
  refine W.widen (k := 0) (n := 0) (Nat.le_of_ble_eq_true rfl) (Nat.le_of_ble_eq_true rfl) ?_
  refine lv_aload_n hx hb dX7_readType_142 rfl (lv_at hl 3 rfl) ?_
  refine va_get (D := (dC, dI)) (ci := 7) (v := .int 1) (C := RX7) (T := TX7) (N := 39) hx hb hg i_X7 hown hK hP 0 rfl rfl 5 (by decide) (hg _ k_229) (fun _ h9 => h9) rfl dX7_readType_143 ?_
  refine lv_if_ne (tgt := 319) hx hb dX7_readType_146 (by decide) (fun _ => ?_) (fun c9 => absurd c9 (by decide))
  refine lv_goto (tgt := 14) hx hb dX7_readType_319 (by decide) ?_
  refine lv_aload_n hx hb dX7_readType_14 rfl (lv_at hl 3 rfl) ?_
  refine va_get (D := (dC, dI)) (ci := 7) (v := .int 1) (C := RX7) (T := TX7) (N := 39) hx hb hg i_X7 hown hK hP 0 rfl rfl 5 (by decide) (hg _ k_229) (fun _ h9 => h9) rfl dX7_readType_15 ?_
  refine lv_if_ne (tgt := 322) hx hb dX7_readType_18 (by decide) (fun _ => ?_) (fun c9 => absurd c9 (by decide))
  refine lv_iload_n hx hb dX7_readType_322 rfl (lv_at hl 0 rfl) ?_
  have hP9 := hP.sub (ws' := [(h0, .inr (7, [.int 0, .ref m1, .int 0, .int 0, .int 0, .int 1, .int 0, .int 0, .int 0, .ref m2, .ref m3, .ref m4, .int 0, .ref m5, .ref m6, .ref m7, .int 0, .ref m8, .ref m9, .ref m10, .int 1, .int 0, .ref m11, .ref m12, .ref m13, .int 0, .int 0, .ref m14, .int 0, .ref m15, .ref m16, .ref m17, .int 0, .int 0, .ref m18, .ref m19, .ref m20, .int 0, .ref m21]))]) [0] rfl
  have hD9 := hD.sub (ws' := [(h0, .inr (7, [.int 0, .ref m1, .int 0, .int 0, .int 0, .int 1, .int 0, .int 0, .int 0, .ref m2, .ref m3, .ref m4, .int 0, .ref m5, .ref m6, .ref m7, .int 0, .ref m8, .ref m9, .ref m10, .int 1, .int 0, .ref m11, .ref m12, .ref m13, .int 0, .int 0, .ref m14, .int 0, .ref m15, .ref m16, .ref m17, .int 0, .int 0, .ref m18, .ref m19, .ref m20, .int 0, .ref m21]))]) [0] (by decide) rfl
  refine W.widen (k := 0) (n := 0) (Nat.le_of_ble_eq_true rfl) (Nat.le_of_ble_eq_true rfl) ?_
  exact W.iret (v := (-1)) hx hb hr (fun t ht hW => ⟨⟨(-1), (), rfl, rfl, by rw [ht]; exact hP9, hD9⟩, hS.F ht⟩) hS.2.2 dX7_readType_323

set_option maxHeartbeats 4000000 in
set_option maxRecDepth 100000 in
/-- infer() with nothing taped -/
theorem c_X7_infer (l : Launch) (dC : Nat → ClassId) (dI : Nat → Nat → Nat) (cI cZ cL : ClassId) (h0 m8 m9 m10 m18 : Nat) (sz : Nat) (m1 m2 m3 m4 m5 m6 m7 m11 m12 m13 m14 m15 m16 m17 m19 m20 m21 : Nat) : Met l yX7_infer (wd yX7_infer cX7_infer 2 (some .boolean)) ({ frames := 2, cells := 0, slots := 0, locals := 51 }) (va_Pc [.ref h0] (hp dC dI cI cZ cL sz [(h0, .inr (7, [.int 0, .ref m1, .int 0, .int 0, .int 0, .int 0, .int (-1), .int 0, .int 0, .ref m2, .ref m3, .ref m4, .int 0, .ref m5, .ref m6, .ref m7, .int 0, .ref m8, .ref m9, .ref m10, .int 0, .int 0, .ref m11, .ref m12, .ref m13, .int 0, .int 0, .ref m14, .int 0, .ref m15, .ref m16, .ref m17, .int 0, .int 0, .ref m18, .ref m19, .ref m20, .int 0, .ref m21])), (m8, .inl (cI, 130, .inl zI)), (m9, .inl (cI, 130, .inl zI)), (m10, .inl (cI, 130, .inl zI)), (m18, .inl (cI, 8000, .inl zI))])) (va_Qi (fun (r : Int32) (_ : Unit) => r = 0) (fun (_ : Unit) t => va_P (dC, dI) vwCl [(h0, .inr (7, [.int 1, .ref m1, .int 0, .int 0, .int 0, .int 1, .int 0, .int 0, .int 0, .ref m2, .ref m3, .ref m4, .int 0, .ref m5, .ref m6, .ref m7, .int 0, .ref m8, .ref m9, .ref m10, .int 1, .int 0, .ref m11, .ref m12, .ref m13, .int 0, .int 0, .ref m14, .int 0, .ref m15, .ref m16, .ref m17, .int 0, .int 0, .ref m18, .ref m19, .ref m20, .int 0, .ref m21]))] t.heap ∧ va_D (va_A [(h0, .inr (7, [.int 0, .ref m1, .int 0, .int 0, .int 0, .int 0, .int (-1), .int 0, .int 0, .ref m2, .ref m3, .ref m4, .int 0, .ref m5, .ref m6, .ref m7, .int 0, .ref m8, .ref m9, .ref m10, .int 0, .int 0, .ref m11, .ref m12, .ref m13, .int 0, .int 0, .ref m14, .int 0, .ref m15, .ref m16, .ref m17, .int 0, .int 0, .ref m18, .ref m19, .ref m20, .int 0, .ref m21])), (m8, .inl (cI, 130, .inl zI)), (m9, .inl (cI, 130, .inl zI)), (m10, .inl (cI, 130, .inl zI)), (m18, .inl (cI, 8000, .inl zI))] sz) [(h0, .inr (7, [.int 1, .ref m1, .int 0, .int 0, .int 0, .int 1, .int 0, .int 0, .int 0, .ref m2, .ref m3, .ref m4, .int 0, .ref m5, .ref m6, .ref m7, .int 0, .ref m8, .ref m9, .ref m10, .int 1, .int 0, .ref m11, .ref m12, .ref m13, .int 0, .int 0, .ref m14, .int 0, .ref m15, .ref m16, .ref m17, .int 0, .int 0, .ref m18, .ref m19, .ref m20, .int 0, .ref m21]))]) (va_A [(h0, .inr (7, [.int 0, .ref m1, .int 0, .int 0, .int 0, .int 0, .int (-1), .int 0, .int 0, .ref m2, .ref m3, .ref m4, .int 0, .ref m5, .ref m6, .ref m7, .int 0, .ref m8, .ref m9, .ref m10, .int 0, .int 0, .ref m11, .ref m12, .ref m13, .int 0, .int 0, .ref m14, .int 0, .ref m15, .ref m16, .ref m17, .int 0, .int 0, .ref m18, .ref m19, .ref m20, .int 0, .ref m21])), (m8, .inl (cI, 130, .inl zI)), (m9, .inl (cI, 130, .inl zI)), (m10, .inl (cI, 130, .inl zI)), (m18, .inl (cI, 8000, .inl zI))] sz)) 0 0 (va_A [(h0, .inr (7, [.int 0, .ref m1, .int 0, .int 0, .int 0, .int 0, .int (-1), .int 0, .int 0, .ref m2, .ref m3, .ref m4, .int 0, .ref m5, .ref m6, .ref m7, .int 0, .ref m8, .ref m9, .ref m10, .int 0, .int 0, .ref m11, .ref m12, .ref m13, .int 0, .int 0, .ref m14, .int 0, .ref m15, .ref m16, .ref m17, .int 0, .int 0, .ref m18, .ref m19, .ref m20, .int 0, .ref m21])), (m8, .inl (cI, 130, .inl zI)), (m9, .inl (cI, 130, .inl zI)), (m10, .inl (cI, 130, .inl zI)), (m18, .inl (cI, 8000, .inl zI))] sz) := by
  refine Met.ofW (cc := cX7_infer) (maxL := 2) (ret := (some .boolean)) (by decide) rfl ?_
  intro p e s m args below meth c s₁ B hml hv
  obtain ⟨rfl, hsz, hP, hK, hD0⟩ := hv
  have hx := B.exec
  have hb := B.bytes
  have hr := B.returns
  have hw9 := atoms_spec (ws := (wd yX7_infer cX7_infer 2 (some .boolean))) B.pre
  have hg := gw_hts hw9
  have hown : s.vm.findClass RX7 = some m.cls := findClass_of_methodNamed B.named
  have hlocks := B.notSynchronized
  subst hsz
  have hD := hD0.self (sz := s.heap.size)
  generalize hAe : va_A [(h0, .inr (7, [.int 0, .ref m1, .int 0, .int 0, .int 0, .int 0, .int (-1), .int 0, .int 0, .ref m2, .ref m3, .ref m4, .int 0, .ref m5, .ref m6, .ref m7, .int 0, .ref m8, .ref m9, .ref m10, .int 0, .int 0, .ref m11, .ref m12, .ref m13, .int 0, .int 0, .ref m14, .int 0, .ref m15, .ref m16, .ref m17, .int 0, .int 0, .ref m18, .ref m19, .ref m20, .int 0, .ref m21])), (m8, .inl (cI, 130, .inl zI)), (m9, .inl (cI, 130, .inl zI)), (m10, .inl (cI, 130, .inl zI)), (m18, .inl (cI, 8000, .inl zI))] s.heap.size = A at hD ⊢
  have hA : ∀ q : Nat, s.heap.size ≤ q → A q := fun q h => by rw [← hAe]; exact Or.inr h
  have hS : va_S A s.heap s.heap [] := va_S.rf
  have hl := lv_entry ([.ref h0]) (n := 2) (Nat.le_of_ble_eq_true rfl)
  rw [lg_entry_eq]
  generalize (lg_sl ([.ref h0]) ++ List.replicate (2 - (lg_sl ([.ref h0])).length) Slot.unset).toArray = ls at hl ⊢
  have hl : lv_has ls 2 [(0, .ref h0)] := hl
  refine lv_aload_n hx hb dX7_infer_0 rfl (lv_at hl 0 rfl) ?_
  have hPc := hP.sub (ws' := [(h0, .inr (7, [.int 0, .ref m1, .int 0, .int 0, .int 0, .int 0, .int (-1), .int 0, .int 0, .ref m2, .ref m3, .ref m4, .int 0, .ref m5, .ref m6, .ref m7, .int 0, .ref m8, .ref m9, .ref m10, .int 0, .int 0, .ref m11, .ref m12, .ref m13, .int 0, .int 0, .ref m14, .int 0, .ref m15, .ref m16, .ref m17, .int 0, .int 0, .ref m18, .ref m19, .ref m20, .int 0, .ref m21]))]) [0] rfl
  have hDc := hD.sub (ws' := [(h0, .inr (7, [.int 0, .ref m1, .int 0, .int 0, .int 0, .int 0, .int (-1), .int 0, .int 0, .ref m2, .ref m3, .ref m4, .int 0, .ref m5, .ref m6, .ref m7, .int 0, .ref m8, .ref m9, .ref m10, .int 0, .int 0, .ref m11, .ref m12, .ref m13, .int 0, .int 0, .ref m14, .int 0, .ref m15, .ref m16, .ref m17, .int 0, .int 0, .ref m18, .ref m19, .ref m20, .int 0, .ref m21]))]) [0] (by decide) rfl
  have hFc := va_free (wc := [(h0, .inr (7, [.int 0, .ref m1, .int 0, .int 0, .int 0, .int 0, .int (-1), .int 0, .int 0, .ref m2, .ref m3, .ref m4, .int 0, .ref m5, .ref m6, .ref m7, .int 0, .ref m8, .ref m9, .ref m10, .int 0, .int 0, .ref m11, .ref m12, .ref m13, .int 0, .int 0, .ref m14, .int 0, .ref m15, .ref m16, .ref m17, .int 0, .int 0, .ref m18, .ref m19, .ref m20, .int 0, .ref m21]))]) hD hS hA [0] rfl
  refine va_callv (va_runV (As := []) (rest := []) ⟨hx, hb, hml, hown, hg⟩ (c_X7_begin l dC dI cI cZ cL h0 (Array.size _) m1 m2 m3 m4 m5 m6 m7 m8 m9 m10 m11 m12 m13 m14 m15 m16 m17 m18 m19 m20 m21) (cwV 0 hg (gw_V k_254 k_255 k_256 k_245 g_yX7_begin) rfl rfl rfl (by decide +kernel) ⟨(Nat.le_of_ble_eq_true rfl), (Nat.le_of_ble_eq_true rfl)⟩) ⟨hp_bl, va_recv hK hPc (ci := 7) (q0 := 0) rfl rfl, fun U hU hW => hp_ok hU hW hPc hK hDc⟩ rfl rfl hl.1 rfl (lv_room (Nat.le_of_ble_eq_true rfl)) dX7_infer_1 ⟨(Nat.le_of_ble_eq_true rfl), (Nat.le_of_ble_eq_true rfl)⟩) hS (fun q _ h => hFc q h) hFc (fun u t H locs ht hvm hw hB hz1 hk1 hS => ?_)
  obtain ⟨hP1, hD1⟩ := hB
  rw [ht] at hP1
  obtain ⟨hP, hD⟩ := va_join (wr := [(m8, .inl (cI, 130, .inl zI)), (m9, .inl (cI, 130, .inl zI)), (m10, .inl (cI, 130, .inl zI)), (m18, .inl (cI, 8000, .inl zI))]) (w1 := [(h0, .inr (7, [.int 0, .ref m1, .int 0, .int 0, .int 0, .int 0, .int (-1), .int 0, .int 0, .ref m2, .ref m3, .ref m4, .int 0, .ref m5, .ref m6, .ref m7, .int 0, .ref m8, .ref m9, .ref m10, .int 0, .int 0, .ref m11, .ref m12, .ref m13, .int 0, .int 0, .ref m14, .int 0, .ref m15, .ref m16, .ref m17, .int 0, .int 0, .ref m18, .ref m19, .ref m20, .int 0, .ref m21]))]) hP hD [0] [1, 2, 3, 4] rfl rfl (by decide) (by decide) hk1 hFc hP1 hD1
  have hP : va_P (dC, dI) vwCl [(m8, .inl (cI, 130, .inl zI)), (m9, .inl (cI, 130, .inl zI)), (m10, .inl (cI, 130, .inl zI)), (m18, .inl (cI, 8000, .inl zI)), (h0, .inr (7, [.int 0, .ref m1, .int 0, .int 0, .int 0, .int 0, .int (-1), .int 0, .int 0, .ref m2, .ref m3, .ref m4, .int 0, .ref m5, .ref m6, .ref m7, .int 0, .ref m8, .ref m9, .ref m10, .int 0, .int 0, .ref m11, .ref m12, .ref m13, .int 0, .int 0, .ref m14, .int 0, .ref m15, .ref m16, .ref m17, .int 0, .int 0, .ref m18, .ref m19, .ref m20, .int 0, .ref m21]))] H := hP
  have hD : va_D A [(m8, .inl (cI, 130, .inl zI)), (m9, .inl (cI, 130, .inl zI)), (m10, .inl (cI, 130, .inl zI)), (m18, .inl (cI, 8000, .inl zI)), (h0, .inr (7, [.int 0, .ref m1, .int 0, .int 0, .int 0, .int 0, .int (-1), .int 0, .int 0, .ref m2, .ref m3, .ref m4, .int 0, .ref m5, .ref m6, .ref m7, .int 0, .ref m8, .ref m9, .ref m10, .int 0, .int 0, .ref m11, .ref m12, .ref m13, .int 0, .int 0, .ref m14, .int 0, .ref m15, .ref m16, .ref m17, .int 0, .int 0, .ref m18, .ref m19, .ref m20, .int 0, .ref m21]))] := hD
  refine W.widen (k := 0) (n := 0) (Nat.le_of_ble_eq_true rfl) (Nat.le_of_ble_eq_true rfl) ?_
  refine lv_aload_n hx hb dX7_infer_4 rfl (lv_at hl 0 rfl) ?_
  have hPc := hP.sub (ws' := [(h0, .inr (7, [.int 0, .ref m1, .int 0, .int 0, .int 0, .int 0, .int (-1), .int 0, .int 0, .ref m2, .ref m3, .ref m4, .int 0, .ref m5, .ref m6, .ref m7, .int 0, .ref m8, .ref m9, .ref m10, .int 0, .int 0, .ref m11, .ref m12, .ref m13, .int 0, .int 0, .ref m14, .int 0, .ref m15, .ref m16, .ref m17, .int 0, .int 0, .ref m18, .ref m19, .ref m20, .int 0, .ref m21])), (m8, .inl (cI, 130, .inl zI)), (m9, .inl (cI, 130, .inl zI)), (m10, .inl (cI, 130, .inl zI)), (m18, .inl (cI, 8000, .inl zI))]) [4, 0, 1, 2, 3] rfl
  have hDc := hD.sub (ws' := [(h0, .inr (7, [.int 0, .ref m1, .int 0, .int 0, .int 0, .int 0, .int (-1), .int 0, .int 0, .ref m2, .ref m3, .ref m4, .int 0, .ref m5, .ref m6, .ref m7, .int 0, .ref m8, .ref m9, .ref m10, .int 0, .int 0, .ref m11, .ref m12, .ref m13, .int 0, .int 0, .ref m14, .int 0, .ref m15, .ref m16, .ref m17, .int 0, .int 0, .ref m18, .ref m19, .ref m20, .int 0, .ref m21])), (m8, .inl (cI, 130, .inl zI)), (m9, .inl (cI, 130, .inl zI)), (m10, .inl (cI, 130, .inl zI)), (m18, .inl (cI, 8000, .inl zI))]) [4, 0, 1, 2, 3] (by decide) rfl
  have hFc := va_free (wc := [(h0, .inr (7, [.int 0, .ref m1, .int 0, .int 0, .int 0, .int 0, .int (-1), .int 0, .int 0, .ref m2, .ref m3, .ref m4, .int 0, .ref m5, .ref m6, .ref m7, .int 0, .ref m8, .ref m9, .ref m10, .int 0, .int 0, .ref m11, .ref m12, .ref m13, .int 0, .int 0, .ref m14, .int 0, .ref m15, .ref m16, .ref m17, .int 0, .int 0, .ref m18, .ref m19, .ref m20, .int 0, .ref m21])), (m8, .inl (cI, 130, .inl zI)), (m9, .inl (cI, 130, .inl zI)), (m10, .inl (cI, 130, .inl zI)), (m18, .inl (cI, 8000, .inl zI))]) hD hS hA [4, 0, 1, 2, 3] rfl
  refine va_calli (va_runV (As := []) (rest := []) ⟨hx, hb, hml, hown, hg⟩ (c_X7_readTerm l dC dI cI cZ cL h0 m8 m9 m10 m18 (Array.size _) m1 m2 m3 m4 m5 m6 m7 m11 m12 m13 m14 m15 m16 m17 m19 m20 m21) (cwV 0 hg (gw_V k_257 k_258 k_259 k_245 g_yX7_readTerm) rfl rfl rfl (by decide +kernel) ⟨(Nat.le_of_ble_eq_true rfl), (Nat.le_of_ble_eq_true rfl)⟩) ⟨hp_bl, va_recv hK hPc (ci := 7) (q0 := 0) rfl rfl, fun U hU hW => hp_ok hU hW hPc hK hDc⟩ rfl rfl hl.1 rfl (lv_room (Nat.le_of_ble_eq_true rfl)) dX7_infer_5 ⟨(Nat.le_of_ble_eq_true rfl), (Nat.le_of_ble_eq_true rfl)⟩) hS (fun q _ h => hFc q h) hFc (fun r9 u t H locs ht hvm hw hB hz1 hk1 hS => ?_)
  obtain ⟨hP1, hD1⟩ := hB
  rw [ht] at hP1
  obtain ⟨hP, hD⟩ := va_join (wr := []) (w1 := [(h0, .inr (7, [.int 0, .ref m1, .int 0, .int 0, .int 0, .int 1, .int 0, .int 0, .int 0, .ref m2, .ref m3, .ref m4, .int 0, .ref m5, .ref m6, .ref m7, .int 0, .ref m8, .ref m9, .ref m10, .int 1, .int 0, .ref m11, .ref m12, .ref m13, .int 0, .int 0, .ref m14, .int 0, .ref m15, .ref m16, .ref m17, .int 0, .int 0, .ref m18, .ref m19, .ref m20, .int 0, .ref m21]))]) hP hD [4, 0, 1, 2, 3] [] rfl rfl (by decide) (by decide) hk1 hFc hP1 hD1
  have hP : va_P (dC, dI) vwCl [(h0, .inr (7, [.int 0, .ref m1, .int 0, .int 0, .int 0, .int 1, .int 0, .int 0, .int 0, .ref m2, .ref m3, .ref m4, .int 0, .ref m5, .ref m6, .ref m7, .int 0, .ref m8, .ref m9, .ref m10, .int 1, .int 0, .ref m11, .ref m12, .ref m13, .int 0, .int 0, .ref m14, .int 0, .ref m15, .ref m16, .ref m17, .int 0, .int 0, .ref m18, .ref m19, .ref m20, .int 0, .ref m21]))] H := hP
  have hD : va_D A [(h0, .inr (7, [.int 0, .ref m1, .int 0, .int 0, .int 0, .int 1, .int 0, .int 0, .int 0, .ref m2, .ref m3, .ref m4, .int 0, .ref m5, .ref m6, .ref m7, .int 0, .ref m8, .ref m9, .ref m10, .int 1, .int 0, .ref m11, .ref m12, .ref m13, .int 0, .int 0, .ref m14, .int 0, .ref m15, .ref m16, .ref m17, .int 0, .int 0, .ref m18, .ref m19, .ref m20, .int 0, .ref m21]))] := hD
  refine W.widen (k := 0) (n := 0) (Nat.le_of_ble_eq_true rfl) (Nat.le_of_ble_eq_true rfl) ?_
  obtain rfl : r9 = (-1) := hw
  refine lv_istore_n (lv' := [(1, .int (-1)), (0, .ref h0)]) hx hb dX7_infer_8 rfl hl (by decide) rfl (fun ls hl => ?_)
  refine lv_aload_n hx hb dX7_infer_9 rfl (lv_at hl 1 rfl) ?_
  refine lv_aload_n hx hb dX7_infer_10 rfl (lv_at hl 1 rfl) ?_
  refine va_get (D := (dC, dI)) (ci := 7) (v := .int 1) (C := RX7) (T := TX7) (N := 39) hx hb hg i_X7 hown hK hP 0 rfl rfl 5 (by decide) (hg _ k_229) (fun _ h9 => h9) rfl dX7_infer_11 ?_
  refine lv_iconst (v := 0) hx hb dX7_infer_14 (by decide) ?_
  have hPc := hP.sub (ws' := [(h0, .inr (7, [.int 0, .ref m1, .int 0, .int 0, .int 0, .int 1, .int 0, .int 0, .int 0, .ref m2, .ref m3, .ref m4, .int 0, .ref m5, .ref m6, .ref m7, .int 0, .ref m8, .ref m9, .ref m10, .int 1, .int 0, .ref m11, .ref m12, .ref m13, .int 0, .int 0, .ref m14, .int 0, .ref m15, .ref m16, .ref m17, .int 0, .int 0, .ref m18, .ref m19, .ref m20, .int 0, .ref m21]))]) [0] rfl
  have hDc := hD.sub (ws' := [(h0, .inr (7, [.int 0, .ref m1, .int 0, .int 0, .int 0, .int 1, .int 0, .int 0, .int 0, .ref m2, .ref m3, .ref m4, .int 0, .ref m5, .ref m6, .ref m7, .int 0, .ref m8, .ref m9, .ref m10, .int 1, .int 0, .ref m11, .ref m12, .ref m13, .int 0, .int 0, .ref m14, .int 0, .ref m15, .ref m16, .ref m17, .int 0, .int 0, .ref m18, .ref m19, .ref m20, .int 0, .ref m21]))]) [0] (by decide) rfl
  have hFc := va_free (wc := [(h0, .inr (7, [.int 0, .ref m1, .int 0, .int 0, .int 0, .int 1, .int 0, .int 0, .int 0, .ref m2, .ref m3, .ref m4, .int 0, .ref m5, .ref m6, .ref m7, .int 0, .ref m8, .ref m9, .ref m10, .int 1, .int 0, .ref m11, .ref m12, .ref m13, .int 0, .int 0, .ref m14, .int 0, .ref m15, .ref m16, .ref m17, .int 0, .int 0, .ref m18, .ref m19, .ref m20, .int 0, .ref m21]))]) hD hS hA [0] rfl
  refine va_calli (va_runV (As := [.int 1, .int 0]) (rest := []) ⟨hx, hb, hml, hown, hg⟩ (c_thrA l dC dI cI cZ cL h0 (Array.size _) [.ref m1, .int 0, .int 0, .int 0, .int 1, .int 0, .int 0, .int 0, .ref m2, .ref m3, .ref m4, .int 0, .ref m5, .ref m6, .ref m7, .int 0, .ref m8, .ref m9, .ref m10, .int 1, .int 0, .ref m11, .ref m12, .ref m13, .int 0, .int 0, .ref m14, .int 0, .ref m15, .ref m16, .ref m17, .int 0, .int 0, .ref m18, .ref m19, .ref m20, .int 0, .ref m21]) (cwV 2 hg (gw_V k_260 k_261 k_262 k_245 g_yX7_throwing) rfl rfl rfl (by decide +kernel) ⟨(Nat.le_of_ble_eq_true rfl), (Nat.le_of_ble_eq_true rfl)⟩) ⟨hp_bl, va_recv hK hPc (ci := 7) (q0 := 0) rfl rfl, fun U hU hW => hp_ok hU hW hPc hK hDc⟩ rfl rfl hl.1 rfl (lv_room (Nat.le_of_ble_eq_true rfl)) dX7_infer_15 ⟨(Nat.le_of_ble_eq_true rfl), (Nat.le_of_ble_eq_true rfl)⟩) hS (fun q _ h => hFc q h) hFc (fun r9 u t H locs ht hvm hw hB hz1 hk1 hS => ?_)
  obtain ⟨hP1, hD1⟩ := hB
  rw [ht] at hP1
  obtain ⟨hP, hD⟩ := va_join (wr := []) (w1 := [(h0, .inr (7, [.int 1, .ref m1, .int 0, .int 0, .int 0, .int 1, .int 0, .int 0, .int 0, .ref m2, .ref m3, .ref m4, .int 0, .ref m5, .ref m6, .ref m7, .int 0, .ref m8, .ref m9, .ref m10, .int 1, .int 0, .ref m11, .ref m12, .ref m13, .int 0, .int 0, .ref m14, .int 0, .ref m15, .ref m16, .ref m17, .int 0, .int 0, .ref m18, .ref m19, .ref m20, .int 0, .ref m21]))]) hP hD [0] [] rfl rfl (by decide) (by decide) hk1 hFc hP1 hD1
  have hP : va_P (dC, dI) vwCl [(h0, .inr (7, [.int 1, .ref m1, .int 0, .int 0, .int 0, .int 1, .int 0, .int 0, .int 0, .ref m2, .ref m3, .ref m4, .int 0, .ref m5, .ref m6, .ref m7, .int 0, .ref m8, .ref m9, .ref m10, .int 1, .int 0, .ref m11, .ref m12, .ref m13, .int 0, .int 0, .ref m14, .int 0, .ref m15, .ref m16, .ref m17, .int 0, .int 0, .ref m18, .ref m19, .ref m20, .int 0, .ref m21]))] H := hP
  have hD : va_D A [(h0, .inr (7, [.int 1, .ref m1, .int 0, .int 0, .int 0, .int 1, .int 0, .int 0, .int 0, .ref m2, .ref m3, .ref m4, .int 0, .ref m5, .ref m6, .ref m7, .int 0, .ref m8, .ref m9, .ref m10, .int 1, .int 0, .ref m11, .ref m12, .ref m13, .int 0, .int 0, .ref m14, .int 0, .ref m15, .ref m16, .ref m17, .int 0, .int 0, .ref m18, .ref m19, .ref m20, .int 0, .ref m21]))] := hD
  refine W.widen (k := 0) (n := 0) (Nat.le_of_ble_eq_true rfl) (Nat.le_of_ble_eq_true rfl) ?_
  obtain rfl : r9 = 1 := hw
  refine lv_if_eq (tgt := 23) hx hb dX7_infer_18 (by decide) (fun c9 => absurd c9 (by decide)) (fun _ => ?_)
  refine lv_iconst (v := 0) hx hb dX7_infer_21 (by decide) ?_
  have hP9 := hP.sub (ws' := [(h0, .inr (7, [.int 1, .ref m1, .int 0, .int 0, .int 0, .int 1, .int 0, .int 0, .int 0, .ref m2, .ref m3, .ref m4, .int 0, .ref m5, .ref m6, .ref m7, .int 0, .ref m8, .ref m9, .ref m10, .int 1, .int 0, .ref m11, .ref m12, .ref m13, .int 0, .int 0, .ref m14, .int 0, .ref m15, .ref m16, .ref m17, .int 0, .int 0, .ref m18, .ref m19, .ref m20, .int 0, .ref m21]))]) [0] rfl
  have hD9 := hD.sub (ws' := [(h0, .inr (7, [.int 1, .ref m1, .int 0, .int 0, .int 0, .int 1, .int 0, .int 0, .int 0, .ref m2, .ref m3, .ref m4, .int 0, .ref m5, .ref m6, .ref m7, .int 0, .ref m8, .ref m9, .ref m10, .int 1, .int 0, .ref m11, .ref m12, .ref m13, .int 0, .int 0, .ref m14, .int 0, .ref m15, .ref m16, .ref m17, .int 0, .int 0, .ref m18, .ref m19, .ref m20, .int 0, .ref m21]))]) [0] (by decide) rfl
  refine W.widen (k := 0) (n := 0) (Nat.le_of_ble_eq_true rfl) (Nat.le_of_ble_eq_true rfl) ?_
  exact W.zret (ty := .boolean) (v := 0) hx hb hr (by decide) (fun t ht hW => ⟨⟨0, (), rfl, rfl, by rw [ht]; exact hP9, hD9⟩, hS.F ht⟩) hS.2.2 dX7_infer_22

set_option maxHeartbeats 4000000 in
set_option maxRecDepth 100000 in
/-- below() with nothing taped -/
theorem c_X7_below (l : Launch) (dC : Nat → ClassId) (dI : Nat → Nat → Nat) (cI cZ cL : ClassId) (h0 m8 m9 m10 : Nat) (sz : Nat) (m1 m2 m3 m4 m5 m6 m7 m11 m12 m13 m14 m15 m16 m17 m18 m19 m20 m21 : Nat) : Met l yX7_below (wd yX7_below cX7_below 3 (some .boolean)) ({ frames := 2, cells := 0, slots := 0, locals := 47 }) (va_Pc [.ref h0] (hp dC dI cI cZ cL sz [(h0, .inr (7, [.int 0, .ref m1, .int 0, .int 0, .int 0, .int 0, .int (-1), .int 0, .int 0, .ref m2, .ref m3, .ref m4, .int 0, .ref m5, .ref m6, .ref m7, .int 0, .ref m8, .ref m9, .ref m10, .int 0, .int 0, .ref m11, .ref m12, .ref m13, .int 0, .int 0, .ref m14, .int 0, .ref m15, .ref m16, .ref m17, .int 0, .int 0, .ref m18, .ref m19, .ref m20, .int 0, .ref m21])), (m8, .inl (cI, 130, .inl zI)), (m9, .inl (cI, 130, .inl zI)), (m10, .inl (cI, 130, .inl zI))])) (va_Qi (fun (r : Int32) (_ : Unit) => r = 0) (fun (_ : Unit) t => va_P (dC, dI) vwCl [(h0, .inr (7, [.int 1, .ref m1, .int 0, .int 0, .int 1, .int 1, .int 0, .int 0, .int 0, .ref m2, .ref m3, .ref m4, .int 0, .ref m5, .ref m6, .ref m7, .int 0, .ref m8, .ref m9, .ref m10, .int 1, .int 0, .ref m11, .ref m12, .ref m13, .int 0, .int 0, .ref m14, .int 0, .ref m15, .ref m16, .ref m17, .int 0, .int 0, .ref m18, .ref m19, .ref m20, .int 0, .ref m21]))] t.heap ∧ va_D (va_A [(h0, .inr (7, [.int 0, .ref m1, .int 0, .int 0, .int 0, .int 0, .int (-1), .int 0, .int 0, .ref m2, .ref m3, .ref m4, .int 0, .ref m5, .ref m6, .ref m7, .int 0, .ref m8, .ref m9, .ref m10, .int 0, .int 0, .ref m11, .ref m12, .ref m13, .int 0, .int 0, .ref m14, .int 0, .ref m15, .ref m16, .ref m17, .int 0, .int 0, .ref m18, .ref m19, .ref m20, .int 0, .ref m21])), (m8, .inl (cI, 130, .inl zI)), (m9, .inl (cI, 130, .inl zI)), (m10, .inl (cI, 130, .inl zI))] sz) [(h0, .inr (7, [.int 1, .ref m1, .int 0, .int 0, .int 1, .int 1, .int 0, .int 0, .int 0, .ref m2, .ref m3, .ref m4, .int 0, .ref m5, .ref m6, .ref m7, .int 0, .ref m8, .ref m9, .ref m10, .int 1, .int 0, .ref m11, .ref m12, .ref m13, .int 0, .int 0, .ref m14, .int 0, .ref m15, .ref m16, .ref m17, .int 0, .int 0, .ref m18, .ref m19, .ref m20, .int 0, .ref m21]))]) (va_A [(h0, .inr (7, [.int 0, .ref m1, .int 0, .int 0, .int 0, .int 0, .int (-1), .int 0, .int 0, .ref m2, .ref m3, .ref m4, .int 0, .ref m5, .ref m6, .ref m7, .int 0, .ref m8, .ref m9, .ref m10, .int 0, .int 0, .ref m11, .ref m12, .ref m13, .int 0, .int 0, .ref m14, .int 0, .ref m15, .ref m16, .ref m17, .int 0, .int 0, .ref m18, .ref m19, .ref m20, .int 0, .ref m21])), (m8, .inl (cI, 130, .inl zI)), (m9, .inl (cI, 130, .inl zI)), (m10, .inl (cI, 130, .inl zI))] sz)) 0 0 (va_A [(h0, .inr (7, [.int 0, .ref m1, .int 0, .int 0, .int 0, .int 0, .int (-1), .int 0, .int 0, .ref m2, .ref m3, .ref m4, .int 0, .ref m5, .ref m6, .ref m7, .int 0, .ref m8, .ref m9, .ref m10, .int 0, .int 0, .ref m11, .ref m12, .ref m13, .int 0, .int 0, .ref m14, .int 0, .ref m15, .ref m16, .ref m17, .int 0, .int 0, .ref m18, .ref m19, .ref m20, .int 0, .ref m21])), (m8, .inl (cI, 130, .inl zI)), (m9, .inl (cI, 130, .inl zI)), (m10, .inl (cI, 130, .inl zI))] sz) := by
  refine Met.ofW (cc := cX7_below) (maxL := 3) (ret := (some .boolean)) (by decide) rfl ?_
  intro p e s m args below meth c s₁ B hml hv
  obtain ⟨rfl, hsz, hP, hK, hD0⟩ := hv
  have hx := B.exec
  have hb := B.bytes
  have hr := B.returns
  have hw9 := atoms_spec (ws := (wd yX7_below cX7_below 3 (some .boolean))) B.pre
  have hg := gw_hts hw9
  have hown : s.vm.findClass RX7 = some m.cls := findClass_of_methodNamed B.named
  have hlocks := B.notSynchronized
  subst hsz
  have hD := hD0.self (sz := s.heap.size)
  generalize hAe : va_A [(h0, .inr (7, [.int 0, .ref m1, .int 0, .int 0, .int 0, .int 0, .int (-1), .int 0, .int 0, .ref m2, .ref m3, .ref m4, .int 0, .ref m5, .ref m6, .ref m7, .int 0, .ref m8, .ref m9, .ref m10, .int 0, .int 0, .ref m11, .ref m12, .ref m13, .int 0, .int 0, .ref m14, .int 0, .ref m15, .ref m16, .ref m17, .int 0, .int 0, .ref m18, .ref m19, .ref m20, .int 0, .ref m21])), (m8, .inl (cI, 130, .inl zI)), (m9, .inl (cI, 130, .inl zI)), (m10, .inl (cI, 130, .inl zI))] s.heap.size = A at hD ⊢
  have hA : ∀ q : Nat, s.heap.size ≤ q → A q := fun q h => by rw [← hAe]; exact Or.inr h
  have hS : va_S A s.heap s.heap [] := va_S.rf
  have hl := lv_entry ([.ref h0]) (n := 3) (Nat.le_of_ble_eq_true rfl)
  rw [lg_entry_eq]
  generalize (lg_sl ([.ref h0]) ++ List.replicate (3 - (lg_sl ([.ref h0])).length) Slot.unset).toArray = ls at hl ⊢
  have hl : lv_has ls 3 [(0, .ref h0)] := hl
  refine lv_aload_n hx hb dX7_below_0 rfl (lv_at hl 0 rfl) ?_
  have hPc := hP.sub (ws' := [(h0, .inr (7, [.int 0, .ref m1, .int 0, .int 0, .int 0, .int 0, .int (-1), .int 0, .int 0, .ref m2, .ref m3, .ref m4, .int 0, .ref m5, .ref m6, .ref m7, .int 0, .ref m8, .ref m9, .ref m10, .int 0, .int 0, .ref m11, .ref m12, .ref m13, .int 0, .int 0, .ref m14, .int 0, .ref m15, .ref m16, .ref m17, .int 0, .int 0, .ref m18, .ref m19, .ref m20, .int 0, .ref m21]))]) [0] rfl
  have hDc := hD.sub (ws' := [(h0, .inr (7, [.int 0, .ref m1, .int 0, .int 0, .int 0, .int 0, .int (-1), .int 0, .int 0, .ref m2, .ref m3, .ref m4, .int 0, .ref m5, .ref m6, .ref m7, .int 0, .ref m8, .ref m9, .ref m10, .int 0, .int 0, .ref m11, .ref m12, .ref m13, .int 0, .int 0, .ref m14, .int 0, .ref m15, .ref m16, .ref m17, .int 0, .int 0, .ref m18, .ref m19, .ref m20, .int 0, .ref m21]))]) [0] (by decide) rfl
  have hFc := va_free (wc := [(h0, .inr (7, [.int 0, .ref m1, .int 0, .int 0, .int 0, .int 0, .int (-1), .int 0, .int 0, .ref m2, .ref m3, .ref m4, .int 0, .ref m5, .ref m6, .ref m7, .int 0, .ref m8, .ref m9, .ref m10, .int 0, .int 0, .ref m11, .ref m12, .ref m13, .int 0, .int 0, .ref m14, .int 0, .ref m15, .ref m16, .ref m17, .int 0, .int 0, .ref m18, .ref m19, .ref m20, .int 0, .ref m21]))]) hD hS hA [0] rfl
  refine va_callv (va_runV (As := []) (rest := []) ⟨hx, hb, hml, hown, hg⟩ (c_X7_begin l dC dI cI cZ cL h0 (Array.size _) m1 m2 m3 m4 m5 m6 m7 m8 m9 m10 m11 m12 m13 m14 m15 m16 m17 m18 m19 m20 m21) (cwV 0 hg (gw_V k_254 k_255 k_256 k_245 g_yX7_begin) rfl rfl rfl (by decide +kernel) ⟨(Nat.le_of_ble_eq_true rfl), (Nat.le_of_ble_eq_true rfl)⟩) ⟨hp_bl, va_recv hK hPc (ci := 7) (q0 := 0) rfl rfl, fun U hU hW => hp_ok hU hW hPc hK hDc⟩ rfl rfl hl.1 rfl (lv_room (Nat.le_of_ble_eq_true rfl)) dX7_below_1 ⟨(Nat.le_of_ble_eq_true rfl), (Nat.le_of_ble_eq_true rfl)⟩) hS (fun q _ h => hFc q h) hFc (fun u t H locs ht hvm hw hB hz1 hk1 hS => ?_)
  obtain ⟨hP1, hD1⟩ := hB
  rw [ht] at hP1
  obtain ⟨hP, hD⟩ := va_join (wr := [(m8, .inl (cI, 130, .inl zI)), (m9, .inl (cI, 130, .inl zI)), (m10, .inl (cI, 130, .inl zI))]) (w1 := [(h0, .inr (7, [.int 0, .ref m1, .int 0, .int 0, .int 0, .int 0, .int (-1), .int 0, .int 0, .ref m2, .ref m3, .ref m4, .int 0, .ref m5, .ref m6, .ref m7, .int 0, .ref m8, .ref m9, .ref m10, .int 0, .int 0, .ref m11, .ref m12, .ref m13, .int 0, .int 0, .ref m14, .int 0, .ref m15, .ref m16, .ref m17, .int 0, .int 0, .ref m18, .ref m19, .ref m20, .int 0, .ref m21]))]) hP hD [0] [1, 2, 3] rfl rfl (by decide) (by decide) hk1 hFc hP1 hD1
  have hP : va_P (dC, dI) vwCl [(m8, .inl (cI, 130, .inl zI)), (m9, .inl (cI, 130, .inl zI)), (m10, .inl (cI, 130, .inl zI)), (h0, .inr (7, [.int 0, .ref m1, .int 0, .int 0, .int 0, .int 0, .int (-1), .int 0, .int 0, .ref m2, .ref m3, .ref m4, .int 0, .ref m5, .ref m6, .ref m7, .int 0, .ref m8, .ref m9, .ref m10, .int 0, .int 0, .ref m11, .ref m12, .ref m13, .int 0, .int 0, .ref m14, .int 0, .ref m15, .ref m16, .ref m17, .int 0, .int 0, .ref m18, .ref m19, .ref m20, .int 0, .ref m21]))] H := hP
  have hD : va_D A [(m8, .inl (cI, 130, .inl zI)), (m9, .inl (cI, 130, .inl zI)), (m10, .inl (cI, 130, .inl zI)), (h0, .inr (7, [.int 0, .ref m1, .int 0, .int 0, .int 0, .int 0, .int (-1), .int 0, .int 0, .ref m2, .ref m3, .ref m4, .int 0, .ref m5, .ref m6, .ref m7, .int 0, .ref m8, .ref m9, .ref m10, .int 0, .int 0, .ref m11, .ref m12, .ref m13, .int 0, .int 0, .ref m14, .int 0, .ref m15, .ref m16, .ref m17, .int 0, .int 0, .ref m18, .ref m19, .ref m20, .int 0, .ref m21]))] := hD
  refine W.widen (k := 0) (n := 0) (Nat.le_of_ble_eq_true rfl) (Nat.le_of_ble_eq_true rfl) ?_
  refine lv_aload_n hx hb dX7_below_4 rfl (lv_at hl 0 rfl) ?_
  have hPc := hP.sub (ws' := [(h0, .inr (7, [.int 0, .ref m1, .int 0, .int 0, .int 0, .int 0, .int (-1), .int 0, .int 0, .ref m2, .ref m3, .ref m4, .int 0, .ref m5, .ref m6, .ref m7, .int 0, .ref m8, .ref m9, .ref m10, .int 0, .int 0, .ref m11, .ref m12, .ref m13, .int 0, .int 0, .ref m14, .int 0, .ref m15, .ref m16, .ref m17, .int 0, .int 0, .ref m18, .ref m19, .ref m20, .int 0, .ref m21])), (m8, .inl (cI, 130, .inl zI)), (m9, .inl (cI, 130, .inl zI)), (m10, .inl (cI, 130, .inl zI))]) [3, 0, 1, 2] rfl
  have hDc := hD.sub (ws' := [(h0, .inr (7, [.int 0, .ref m1, .int 0, .int 0, .int 0, .int 0, .int (-1), .int 0, .int 0, .ref m2, .ref m3, .ref m4, .int 0, .ref m5, .ref m6, .ref m7, .int 0, .ref m8, .ref m9, .ref m10, .int 0, .int 0, .ref m11, .ref m12, .ref m13, .int 0, .int 0, .ref m14, .int 0, .ref m15, .ref m16, .ref m17, .int 0, .int 0, .ref m18, .ref m19, .ref m20, .int 0, .ref m21])), (m8, .inl (cI, 130, .inl zI)), (m9, .inl (cI, 130, .inl zI)), (m10, .inl (cI, 130, .inl zI))]) [3, 0, 1, 2] (by decide) rfl
  have hFc := va_free (wc := [(h0, .inr (7, [.int 0, .ref m1, .int 0, .int 0, .int 0, .int 0, .int (-1), .int 0, .int 0, .ref m2, .ref m3, .ref m4, .int 0, .ref m5, .ref m6, .ref m7, .int 0, .ref m8, .ref m9, .ref m10, .int 0, .int 0, .ref m11, .ref m12, .ref m13, .int 0, .int 0, .ref m14, .int 0, .ref m15, .ref m16, .ref m17, .int 0, .int 0, .ref m18, .ref m19, .ref m20, .int 0, .ref m21])), (m8, .inl (cI, 130, .inl zI)), (m9, .inl (cI, 130, .inl zI)), (m10, .inl (cI, 130, .inl zI))]) hD hS hA [3, 0, 1, 2] rfl
  refine va_calli (va_runV (As := []) (rest := []) ⟨hx, hb, hml, hown, hg⟩ (c_X7_readType l dC dI cI cZ cL h0 m8 m9 m10 (Array.size _) m1 m2 m3 m4 m5 m6 m7 m11 m12 m13 m14 m15 m16 m17 m18 m19 m20 m21) (cwV 0 hg (gw_V k_263 k_264 k_265 k_245 g_yX7_readType) rfl rfl rfl (by decide +kernel) ⟨(Nat.le_of_ble_eq_true rfl), (Nat.le_of_ble_eq_true rfl)⟩) ⟨hp_bl, va_recv hK hPc (ci := 7) (q0 := 0) rfl rfl, fun U hU hW => hp_ok hU hW hPc hK hDc⟩ rfl rfl hl.1 rfl (lv_room (Nat.le_of_ble_eq_true rfl)) dX7_below_5 ⟨(Nat.le_of_ble_eq_true rfl), (Nat.le_of_ble_eq_true rfl)⟩) hS (fun q _ h => hFc q h) hFc (fun r9 u t H locs ht hvm hw hB hz1 hk1 hS => ?_)
  obtain ⟨hP1, hD1⟩ := hB
  rw [ht] at hP1
  obtain ⟨hP, hD⟩ := va_join (wr := []) (w1 := [(h0, .inr (7, [.int 0, .ref m1, .int 0, .int 0, .int 0, .int 1, .int 0, .int 0, .int 0, .ref m2, .ref m3, .ref m4, .int 0, .ref m5, .ref m6, .ref m7, .int 0, .ref m8, .ref m9, .ref m10, .int 1, .int 0, .ref m11, .ref m12, .ref m13, .int 0, .int 0, .ref m14, .int 0, .ref m15, .ref m16, .ref m17, .int 0, .int 0, .ref m18, .ref m19, .ref m20, .int 0, .ref m21]))]) hP hD [3, 0, 1, 2] [] rfl rfl (by decide) (by decide) hk1 hFc hP1 hD1
  have hP : va_P (dC, dI) vwCl [(h0, .inr (7, [.int 0, .ref m1, .int 0, .int 0, .int 0, .int 1, .int 0, .int 0, .int 0, .ref m2, .ref m3, .ref m4, .int 0, .ref m5, .ref m6, .ref m7, .int 0, .ref m8, .ref m9, .ref m10, .int 1, .int 0, .ref m11, .ref m12, .ref m13, .int 0, .int 0, .ref m14, .int 0, .ref m15, .ref m16, .ref m17, .int 0, .int 0, .ref m18, .ref m19, .ref m20, .int 0, .ref m21]))] H := hP
  have hD : va_D A [(h0, .inr (7, [.int 0, .ref m1, .int 0, .int 0, .int 0, .int 1, .int 0, .int 0, .int 0, .ref m2, .ref m3, .ref m4, .int 0, .ref m5, .ref m6, .ref m7, .int 0, .ref m8, .ref m9, .ref m10, .int 1, .int 0, .ref m11, .ref m12, .ref m13, .int 0, .int 0, .ref m14, .int 0, .ref m15, .ref m16, .ref m17, .int 0, .int 0, .ref m18, .ref m19, .ref m20, .int 0, .ref m21]))] := hD
  refine W.widen (k := 0) (n := 0) (Nat.le_of_ble_eq_true rfl) (Nat.le_of_ble_eq_true rfl) ?_
  obtain rfl : r9 = (-1) := hw
  refine lv_istore_n (lv' := [(1, .int (-1)), (0, .ref h0)]) hx hb dX7_below_8 rfl hl (by decide) rfl (fun ls hl => ?_)
  refine lv_aload_n hx hb dX7_below_9 rfl (lv_at hl 1 rfl) ?_
  refine va_get (D := (dC, dI)) (ci := 7) (v := .int 1) (C := RX7) (T := TX7) (N := 39) hx hb hg i_X7 hown hK hP 0 rfl rfl 5 (by decide) (hg _ k_229) (fun _ h9 => h9) rfl dX7_below_10 ?_
  refine lv_if_ne (tgt := 29) hx hb dX7_below_13 (by decide) (fun _ => ?_) (fun c9 => absurd c9 (by decide))
  refine lv_aload_n hx hb dX7_below_29 rfl (lv_at hl 1 rfl) ?_
  refine lv_dup hx hb dX7_below_30 rfl ?_
  refine va_get (D := (dC, dI)) (ci := 7) (v := .int 0) (C := RX7) (T := TX7) (N := 39) hx hb hg i_X7 hown hK hP 0 rfl rfl 4 (by decide) (hg _ k_227) (fun _ h9 => h9) rfl dX7_below_31 ?_
  refine lv_iconst (v := 1) hx hb dX7_below_34 (by decide) ?_
  refine lv_iadd hx hb dX7_below_35 ?_
  refine lv_topi (fun z1 ez1 => ?_)
  obtain rfl : z1 = 1 := ez1.trans (by decide)
  refine va_put (D := (dC, dI)) (ci := 7) (v := .int 1) (ty := .int) (C := RX7) (T := TX7) (N := 39) hx hb hg i_X7 tyX7 tyX7_ok nmX7 hown hK hP hD hS 0 rfl rfl 4 (by decide) (hg _ k_227) (fun _ h9 => h9) rfl (by decide +kernel) rfl rfl (Nat.le_of_ble_eq_true rfl) dX7_below_36 (fun H locs hP hD hS => ?_)
  have hP : va_P (dC, dI) vwCl [(h0, .inr (7, [.int 0, .ref m1, .int 0, .int 0, .int 1, .int 1, .int 0, .int 0, .int 0, .ref m2, .ref m3, .ref m4, .int 0, .ref m5, .ref m6, .ref m7, .int 0, .ref m8, .ref m9, .ref m10, .int 1, .int 0, .ref m11, .ref m12, .ref m13, .int 0, .int 0, .ref m14, .int 0, .ref m15, .ref m16, .ref m17, .int 0, .int 0, .ref m18, .ref m19, .ref m20, .int 0, .ref m21]))] H := hP
  have hD : va_D A [(h0, .inr (7, [.int 0, .ref m1, .int 0, .int 0, .int 1, .int 1, .int 0, .int 0, .int 0, .ref m2, .ref m3, .ref m4, .int 0, .ref m5, .ref m6, .ref m7, .int 0, .ref m8, .ref m9, .ref m10, .int 1, .int 0, .ref m11, .ref m12, .ref m13, .int 0, .int 0, .ref m14, .int 0, .ref m15, .ref m16, .ref m17, .int 0, .int 0, .ref m18, .ref m19, .ref m20, .int 0, .ref m21]))] := hD
  refine lv_aload_n hx hb dX7_below_39 rfl (lv_at hl 1 rfl) ?_
  refine va_get (D := (dC, dI)) (ci := 7) (v := .int 1) (C := RX7) (T := TX7) (N := 39) hx hb hg i_X7 hown hK hP 0 rfl rfl 5 (by decide) (hg _ k_229) (fun _ h9 => h9) rfl dX7_below_40 ?_
  refine lv_if_eq (tgt := 50) hx hb dX7_below_43 (by decide) (fun c9 => absurd c9 (by decide)) (fun _ => ?_)
  refine lv_iconst (v := 0) hx hb dX7_below_46 (by decide) ?_
  refine lv_goto (tgt := 54) hx hb dX7_below_47 (by decide) ?_
  refine lv_istore_n (lv' := [(2, .int 0), (1, .int (-1)), (0, .ref h0)]) hx hb dX7_below_54 rfl hl (by decide) rfl (fun ls hl => ?_)
  refine lv_aload_n hx hb dX7_below_55 rfl (lv_at hl 2 rfl) ?_
  refine va_get (D := (dC, dI)) (ci := 7) (v := .int 1) (C := RX7) (T := TX7) (N := 39) hx hb hg i_X7 hown hK hP 0 rfl rfl 5 (by decide) (hg _ k_229) (fun _ h9 => h9) rfl dX7_below_56 ?_
  refine lv_if_ne (tgt := 74) hx hb dX7_below_59 (by decide) (fun _ => ?_) (fun c9 => absurd c9 (by decide))
  refine lv_aload_n hx hb dX7_below_74 rfl (lv_at hl 2 rfl) ?_
  refine lv_aload_n hx hb dX7_below_75 rfl (lv_at hl 2 rfl) ?_
  refine va_get (D := (dC, dI)) (ci := 7) (v := .int 1) (C := RX7) (T := TX7) (N := 39) hx hb hg i_X7 hown hK hP 0 rfl rfl 5 (by decide) (hg _ k_229) (fun _ h9 => h9) rfl dX7_below_76 ?_
  refine lv_iconst (v := 0) hx hb dX7_below_79 (by decide) ?_
  have hPc := hP.sub (ws' := [(h0, .inr (7, [.int 0, .ref m1, .int 0, .int 0, .int 1, .int 1, .int 0, .int 0, .int 0, .ref m2, .ref m3, .ref m4, .int 0, .ref m5, .ref m6, .ref m7, .int 0, .ref m8, .ref m9, .ref m10, .int 1, .int 0, .ref m11, .ref m12, .ref m13, .int 0, .int 0, .ref m14, .int 0, .ref m15, .ref m16, .ref m17, .int 0, .int 0, .ref m18, .ref m19, .ref m20, .int 0, .ref m21]))]) [0] rfl
  have hDc := hD.sub (ws' := [(h0, .inr (7, [.int 0, .ref m1, .int 0, .int 0, .int 1, .int 1, .int 0, .int 0, .int 0, .ref m2, .ref m3, .ref m4, .int 0, .ref m5, .ref m6, .ref m7, .int 0, .ref m8, .ref m9, .ref m10, .int 1, .int 0, .ref m11, .ref m12, .ref m13, .int 0, .int 0, .ref m14, .int 0, .ref m15, .ref m16, .ref m17, .int 0, .int 0, .ref m18, .ref m19, .ref m20, .int 0, .ref m21]))]) [0] (by decide) rfl
  have hFc := va_free (wc := [(h0, .inr (7, [.int 0, .ref m1, .int 0, .int 0, .int 1, .int 1, .int 0, .int 0, .int 0, .ref m2, .ref m3, .ref m4, .int 0, .ref m5, .ref m6, .ref m7, .int 0, .ref m8, .ref m9, .ref m10, .int 1, .int 0, .ref m11, .ref m12, .ref m13, .int 0, .int 0, .ref m14, .int 0, .ref m15, .ref m16, .ref m17, .int 0, .int 0, .ref m18, .ref m19, .ref m20, .int 0, .ref m21]))]) hD hS hA [0] rfl
  refine va_calli (va_runV (As := [.int 1, .int 0]) (rest := []) ⟨hx, hb, hml, hown, hg⟩ (c_thrA l dC dI cI cZ cL h0 (Array.size _) [.ref m1, .int 0, .int 0, .int 1, .int 1, .int 0, .int 0, .int 0, .ref m2, .ref m3, .ref m4, .int 0, .ref m5, .ref m6, .ref m7, .int 0, .ref m8, .ref m9, .ref m10, .int 1, .int 0, .ref m11, .ref m12, .ref m13, .int 0, .int 0, .ref m14, .int 0, .ref m15, .ref m16, .ref m17, .int 0, .int 0, .ref m18, .ref m19, .ref m20, .int 0, .ref m21]) (cwV 2 hg (gw_V k_260 k_261 k_262 k_245 g_yX7_throwing) rfl rfl rfl (by decide +kernel) ⟨(Nat.le_of_ble_eq_true rfl), (Nat.le_of_ble_eq_true rfl)⟩) ⟨hp_bl, va_recv hK hPc (ci := 7) (q0 := 0) rfl rfl, fun U hU hW => hp_ok hU hW hPc hK hDc⟩ rfl rfl hl.1 rfl (lv_room (Nat.le_of_ble_eq_true rfl)) dX7_below_80 ⟨(Nat.le_of_ble_eq_true rfl), (Nat.le_of_ble_eq_true rfl)⟩) hS (fun q _ h => hFc q h) hFc (fun r9 u t H locs ht hvm hw hB hz1 hk1 hS => ?_)
  obtain ⟨hP1, hD1⟩ := hB
  rw [ht] at hP1
  obtain ⟨hP, hD⟩ := va_join (wr := []) (w1 := [(h0, .inr (7, [.int 1, .ref m1, .int 0, .int 0, .int 1, .int 1, .int 0, .int 0, .int 0, .ref m2, .ref m3, .ref m4, .int 0, .ref m5, .ref m6, .ref m7, .int 0, .ref m8, .ref m9, .ref m10, .int 1, .int 0, .ref m11, .ref m12, .ref m13, .int 0, .int 0, .ref m14, .int 0, .ref m15, .ref m16, .ref m17, .int 0, .int 0, .ref m18, .ref m19, .ref m20, .int 0, .ref m21]))]) hP hD [0] [] rfl rfl (by decide) (by decide) hk1 hFc hP1 hD1
  have hP : va_P (dC, dI) vwCl [(h0, .inr (7, [.int 1, .ref m1, .int 0, .int 0, .int 1, .int 1, .int 0, .int 0, .int 0, .ref m2, .ref m3, .ref m4, .int 0, .ref m5, .ref m6, .ref m7, .int 0, .ref m8, .ref m9, .ref m10, .int 1, .int 0, .ref m11, .ref m12, .ref m13, .int 0, .int 0, .ref m14, .int 0, .ref m15, .ref m16, .ref m17, .int 0, .int 0, .ref m18, .ref m19, .ref m20, .int 0, .ref m21]))] H := hP
  have hD : va_D A [(h0, .inr (7, [.int 1, .ref m1, .int 0, .int 0, .int 1, .int 1, .int 0, .int 0, .int 0, .ref m2, .ref m3, .ref m4, .int 0, .ref m5, .ref m6, .ref m7, .int 0, .ref m8, .ref m9, .ref m10, .int 1, .int 0, .ref m11, .ref m12, .ref m13, .int 0, .int 0, .ref m14, .int 0, .ref m15, .ref m16, .ref m17, .int 0, .int 0, .ref m18, .ref m19, .ref m20, .int 0, .ref m21]))] := hD
  refine W.widen (k := 0) (n := 0) (Nat.le_of_ble_eq_true rfl) (Nat.le_of_ble_eq_true rfl) ?_
  obtain rfl : r9 = 1 := hw
  refine lv_if_eq (tgt := 88) hx hb dX7_below_83 (by decide) (fun c9 => absurd c9 (by decide)) (fun _ => ?_)
  refine lv_iconst (v := 0) hx hb dX7_below_86 (by decide) ?_
  have hP9 := hP.sub (ws' := [(h0, .inr (7, [.int 1, .ref m1, .int 0, .int 0, .int 1, .int 1, .int 0, .int 0, .int 0, .ref m2, .ref m3, .ref m4, .int 0, .ref m5, .ref m6, .ref m7, .int 0, .ref m8, .ref m9, .ref m10, .int 1, .int 0, .ref m11, .ref m12, .ref m13, .int 0, .int 0, .ref m14, .int 0, .ref m15, .ref m16, .ref m17, .int 0, .int 0, .ref m18, .ref m19, .ref m20, .int 0, .ref m21]))]) [0] rfl
  have hD9 := hD.sub (ws' := [(h0, .inr (7, [.int 1, .ref m1, .int 0, .int 0, .int 1, .int 1, .int 0, .int 0, .int 0, .ref m2, .ref m3, .ref m4, .int 0, .ref m5, .ref m6, .ref m7, .int 0, .ref m8, .ref m9, .ref m10, .int 1, .int 0, .ref m11, .ref m12, .ref m13, .int 0, .int 0, .ref m14, .int 0, .ref m15, .ref m16, .ref m17, .int 0, .int 0, .ref m18, .ref m19, .ref m20, .int 0, .ref m21]))]) [0] (by decide) rfl
  refine W.widen (k := 0) (n := 0) (Nat.le_of_ble_eq_true rfl) (Nat.le_of_ble_eq_true rfl) ?_
  exact W.zret (ty := .boolean) (v := 0) hx hb hr (by decide) (fun t ht hW => ⟨⟨0, (), rfl, rfl, by rw [ht]; exact hP9, hD9⟩, hS.F ht⟩) hS.2.2 dX7_below_87

set_option maxHeartbeats 4000000 in
set_option maxRecDepth 100000 in
/-- place() of a new reference -/
theorem c_X7_place (l : Launch) (dC : Nat → ClassId) (dI : Nat → Nat → Nat) (cI cZ cL : ClassId) (h0 : Nat) (sz : Nat) (m1 m2 m3 m4 m5 m6 m7 m8 m9 m10 m11 m12 m13 m14 m15 m16 m17 m18 m19 m20 m21 : Nat) : Met l yX7_place (wd yX7_place cX7_place 1 (some .int)) ({ frames := 0, cells := 0, slots := 0, locals := 0 }) (va_Pc [.ref h0] (hp dC dI cI cZ cL sz [(h0, .inr (7, [.int 0, .ref m1, .int 0, .int 0, .int 0, .int 0, .int (-1), .int 0, .int 0, .ref m2, .ref m3, .ref m4, .int 0, .ref m5, .ref m6, .ref m7, .int 0, .ref m8, .ref m9, .ref m10, .int 0, .int 0, .ref m11, .ref m12, .ref m13, .int 0, .int 0, .ref m14, .int 0, .ref m15, .ref m16, .ref m17, .int 0, .int 0, .ref m18, .ref m19, .ref m20, .int 0, .ref m21]))])) (va_Qi (fun (r : Int32) (_ : Unit) => r = -1) (fun (_ : Unit) t => va_P (dC, dI) vwCl [] t.heap ∧ va_D (va_A [(h0, .inr (7, [.int 0, .ref m1, .int 0, .int 0, .int 0, .int 0, .int (-1), .int 0, .int 0, .ref m2, .ref m3, .ref m4, .int 0, .ref m5, .ref m6, .ref m7, .int 0, .ref m8, .ref m9, .ref m10, .int 0, .int 0, .ref m11, .ref m12, .ref m13, .int 0, .int 0, .ref m14, .int 0, .ref m15, .ref m16, .ref m17, .int 0, .int 0, .ref m18, .ref m19, .ref m20, .int 0, .ref m21]))] sz) []) (va_A [(h0, .inr (7, [.int 0, .ref m1, .int 0, .int 0, .int 0, .int 0, .int (-1), .int 0, .int 0, .ref m2, .ref m3, .ref m4, .int 0, .ref m5, .ref m6, .ref m7, .int 0, .ref m8, .ref m9, .ref m10, .int 0, .int 0, .ref m11, .ref m12, .ref m13, .int 0, .int 0, .ref m14, .int 0, .ref m15, .ref m16, .ref m17, .int 0, .int 0, .ref m18, .ref m19, .ref m20, .int 0, .ref m21]))] sz)) 0 0 (va_A [(h0, .inr (7, [.int 0, .ref m1, .int 0, .int 0, .int 0, .int 0, .int (-1), .int 0, .int 0, .ref m2, .ref m3, .ref m4, .int 0, .ref m5, .ref m6, .ref m7, .int 0, .ref m8, .ref m9, .ref m10, .int 0, .int 0, .ref m11, .ref m12, .ref m13, .int 0, .int 0, .ref m14, .int 0, .ref m15, .ref m16, .ref m17, .int 0, .int 0, .ref m18, .ref m19, .ref m20, .int 0, .ref m21]))] sz) := by
  refine Met.ofW (cc := cX7_place) (maxL := 1) (ret := (some .int)) (by decide) rfl ?_
  intro p e s m args below meth c s₁ B hml hv
  obtain ⟨rfl, hsz, hP, hK, hD0⟩ := hv
  have hx := B.exec
  have hb := B.bytes
  have hr := B.returns
  have hw9 := atoms_spec (ws := (wd yX7_place cX7_place 1 (some .int))) B.pre
  have hg := gw_hts hw9
  have hown : s.vm.findClass RX7 = some m.cls := findClass_of_methodNamed B.named
  have hlocks := B.notSynchronized
  subst hsz
  have hD := hD0.self (sz := s.heap.size)
  generalize hAe : va_A [(h0, .inr (7, [.int 0, .ref m1, .int 0, .int 0, .int 0, .int 0, .int (-1), .int 0, .int 0, .ref m2, .ref m3, .ref m4, .int 0, .ref m5, .ref m6, .ref m7, .int 0, .ref m8, .ref m9, .ref m10, .int 0, .int 0, .ref m11, .ref m12, .ref m13, .int 0, .int 0, .ref m14, .int 0, .ref m15, .ref m16, .ref m17, .int 0, .int 0, .ref m18, .ref m19, .ref m20, .int 0, .ref m21]))] s.heap.size = A at hD ⊢
  have hA : ∀ q : Nat, s.heap.size ≤ q → A q := fun q h => by rw [← hAe]; exact Or.inr h
  have hS : va_S A s.heap s.heap [] := va_S.rf
  have hl := lv_entry ([.ref h0]) (n := 1) (Nat.le_of_ble_eq_true rfl)
  rw [lg_entry_eq]
  generalize (lg_sl ([.ref h0]) ++ List.replicate (1 - (lg_sl ([.ref h0])).length) Slot.unset).toArray = ls at hl ⊢
  have hl : lv_has ls 1 [(0, .ref h0)] := hl
  refine lv_aload_n hx hb dX7_place_0 rfl (lv_at hl 0 rfl) ?_
  refine lv_iconst (v := 0) hx hb dX7_place_1 (by decide) ?_
  refine va_put (D := (dC, dI)) (ci := 7) (v := .int 0) (ty := .int) (C := RX7) (T := TX7) (N := 39) hx hb hg i_X7 tyX7 tyX7_ok nmX7 hown hK hP hD hS 0 rfl rfl 0 (by decide) (hg _ k_226) (fun _ h9 => h9) rfl (by decide +kernel) rfl rfl (Nat.le_of_ble_eq_true rfl) dX7_place_2 (fun H locs hP hD hS => ?_)
  have hP : va_P (dC, dI) vwCl [(h0, .inr (7, [.int 0, .ref m1, .int 0, .int 0, .int 0, .int 0, .int (-1), .int 0, .int 0, .ref m2, .ref m3, .ref m4, .int 0, .ref m5, .ref m6, .ref m7, .int 0, .ref m8, .ref m9, .ref m10, .int 0, .int 0, .ref m11, .ref m12, .ref m13, .int 0, .int 0, .ref m14, .int 0, .ref m15, .ref m16, .ref m17, .int 0, .int 0, .ref m18, .ref m19, .ref m20, .int 0, .ref m21]))] H := hP
  have hD : va_D A [(h0, .inr (7, [.int 0, .ref m1, .int 0, .int 0, .int 0, .int 0, .int (-1), .int 0, .int 0, .ref m2, .ref m3, .ref m4, .int 0, .ref m5, .ref m6, .ref m7, .int 0, .ref m8, .ref m9, .ref m10, .int 0, .int 0, .ref m11, .ref m12, .ref m13, .int 0, .int 0, .ref m14, .int 0, .ref m15, .ref m16, .ref m17, .int 0, .int 0, .ref m18, .ref m19, .ref m20, .int 0, .ref m21]))] := hD
  refine lv_aload_n hx hb dX7_place_5 rfl (lv_at hl 0 rfl) ?_
  refine va_get (D := (dC, dI)) (ci := 7) (v := .int (-1)) (C := RX7) (T := TX7) (N := 39) hx hb hg i_X7 hown hK hP 0 rfl rfl 6 (by decide) (hg _ k_99) (fun _ h9 => h9) rfl dX7_place_6 ?_
  have hP9 := hP.sub (ws' := []) [] rfl
  have hD9 := hD.sub (ws' := []) [] (by decide) rfl
  refine W.widen (k := 0) (n := 0) (Nat.le_of_ble_eq_true rfl) (Nat.le_of_ble_eq_true rfl) ?_
  exact W.iret (v := (-1)) hx hb hr (fun t ht hW => ⟨⟨(-1), (), rfl, rfl, by rw [ht]; exact hP9, hD9⟩, hS.F ht⟩) hS.2.2 dX7_place_9

set_option maxHeartbeats 4000000 in
set_option maxRecDepth 100000 in
/-- size() of a new reference -/
theorem c_X7_size (l : Launch) (dC : Nat → ClassId) (dI : Nat → Nat → Nat) (cI cZ cL : ClassId) (h0 : Nat) (sz : Nat) (m1 m2 m3 m4 m5 m6 m7 m8 m9 m10 m11 m12 m13 m14 m15 m16 m17 m18 m19 m20 m21 : Nat) : Met l yX7_size (wd yX7_size cX7_size 1 (some .int)) ({ frames := 0, cells := 0, slots := 0, locals := 0 }) (va_Pc [.ref h0] (hp dC dI cI cZ cL sz [(h0, .inr (7, [.int 0, .ref m1, .int 0, .int 0, .int 0, .int 0, .int (-1), .int 0, .int 0, .ref m2, .ref m3, .ref m4, .int 0, .ref m5, .ref m6, .ref m7, .int 0, .ref m8, .ref m9, .ref m10, .int 0, .int 0, .ref m11, .ref m12, .ref m13, .int 0, .int 0, .ref m14, .int 0, .ref m15, .ref m16, .ref m17, .int 0, .int 0, .ref m18, .ref m19, .ref m20, .int 0, .ref m21]))])) (va_Qi (fun (r : Int32) (_ : Unit) => r = 0) (fun (_ : Unit) t => va_P (dC, dI) vwCl [] t.heap ∧ va_D (va_A [(h0, .inr (7, [.int 0, .ref m1, .int 0, .int 0, .int 0, .int 0, .int (-1), .int 0, .int 0, .ref m2, .ref m3, .ref m4, .int 0, .ref m5, .ref m6, .ref m7, .int 0, .ref m8, .ref m9, .ref m10, .int 0, .int 0, .ref m11, .ref m12, .ref m13, .int 0, .int 0, .ref m14, .int 0, .ref m15, .ref m16, .ref m17, .int 0, .int 0, .ref m18, .ref m19, .ref m20, .int 0, .ref m21]))] sz) []) (va_A [(h0, .inr (7, [.int 0, .ref m1, .int 0, .int 0, .int 0, .int 0, .int (-1), .int 0, .int 0, .ref m2, .ref m3, .ref m4, .int 0, .ref m5, .ref m6, .ref m7, .int 0, .ref m8, .ref m9, .ref m10, .int 0, .int 0, .ref m11, .ref m12, .ref m13, .int 0, .int 0, .ref m14, .int 0, .ref m15, .ref m16, .ref m17, .int 0, .int 0, .ref m18, .ref m19, .ref m20, .int 0, .ref m21]))] sz)) 0 0 (va_A [(h0, .inr (7, [.int 0, .ref m1, .int 0, .int 0, .int 0, .int 0, .int (-1), .int 0, .int 0, .ref m2, .ref m3, .ref m4, .int 0, .ref m5, .ref m6, .ref m7, .int 0, .ref m8, .ref m9, .ref m10, .int 0, .int 0, .ref m11, .ref m12, .ref m13, .int 0, .int 0, .ref m14, .int 0, .ref m15, .ref m16, .ref m17, .int 0, .int 0, .ref m18, .ref m19, .ref m20, .int 0, .ref m21]))] sz) := by
  refine Met.ofW (cc := cX7_size) (maxL := 1) (ret := (some .int)) (by decide) rfl ?_
  intro p e s m args below meth c s₁ B hml hv
  obtain ⟨rfl, hsz, hP, hK, hD0⟩ := hv
  have hx := B.exec
  have hb := B.bytes
  have hr := B.returns
  have hw9 := atoms_spec (ws := (wd yX7_size cX7_size 1 (some .int))) B.pre
  have hg := gw_hts hw9
  have hown : s.vm.findClass RX7 = some m.cls := findClass_of_methodNamed B.named
  have hlocks := B.notSynchronized
  subst hsz
  have hD := hD0.self (sz := s.heap.size)
  generalize hAe : va_A [(h0, .inr (7, [.int 0, .ref m1, .int 0, .int 0, .int 0, .int 0, .int (-1), .int 0, .int 0, .ref m2, .ref m3, .ref m4, .int 0, .ref m5, .ref m6, .ref m7, .int 0, .ref m8, .ref m9, .ref m10, .int 0, .int 0, .ref m11, .ref m12, .ref m13, .int 0, .int 0, .ref m14, .int 0, .ref m15, .ref m16, .ref m17, .int 0, .int 0, .ref m18, .ref m19, .ref m20, .int 0, .ref m21]))] s.heap.size = A at hD ⊢
  have hA : ∀ q : Nat, s.heap.size ≤ q → A q := fun q h => by rw [← hAe]; exact Or.inr h
  have hS : va_S A s.heap s.heap [] := va_S.rf
  have hl := lv_entry ([.ref h0]) (n := 1) (Nat.le_of_ble_eq_true rfl)
  rw [lg_entry_eq]
  generalize (lg_sl ([.ref h0]) ++ List.replicate (1 - (lg_sl ([.ref h0])).length) Slot.unset).toArray = ls at hl ⊢
  have hl : lv_has ls 1 [(0, .ref h0)] := hl
  refine lv_aload_n hx hb dX7_size_0 rfl (lv_at hl 0 rfl) ?_
  refine lv_iconst (v := 0) hx hb dX7_size_1 (by decide) ?_
  refine va_put (D := (dC, dI)) (ci := 7) (v := .int 0) (ty := .int) (C := RX7) (T := TX7) (N := 39) hx hb hg i_X7 tyX7 tyX7_ok nmX7 hown hK hP hD hS 0 rfl rfl 0 (by decide) (hg _ k_226) (fun _ h9 => h9) rfl (by decide +kernel) rfl rfl (Nat.le_of_ble_eq_true rfl) dX7_size_2 (fun H locs hP hD hS => ?_)
  have hP : va_P (dC, dI) vwCl [(h0, .inr (7, [.int 0, .ref m1, .int 0, .int 0, .int 0, .int 0, .int (-1), .int 0, .int 0, .ref m2, .ref m3, .ref m4, .int 0, .ref m5, .ref m6, .ref m7, .int 0, .ref m8, .ref m9, .ref m10, .int 0, .int 0, .ref m11, .ref m12, .ref m13, .int 0, .int 0, .ref m14, .int 0, .ref m15, .ref m16, .ref m17, .int 0, .int 0, .ref m18, .ref m19, .ref m20, .int 0, .ref m21]))] H := hP
  have hD : va_D A [(h0, .inr (7, [.int 0, .ref m1, .int 0, .int 0, .int 0, .int 0, .int (-1), .int 0, .int 0, .ref m2, .ref m3, .ref m4, .int 0, .ref m5, .ref m6, .ref m7, .int 0, .ref m8, .ref m9, .ref m10, .int 0, .int 0, .ref m11, .ref m12, .ref m13, .int 0, .int 0, .ref m14, .int 0, .ref m15, .ref m16, .ref m17, .int 0, .int 0, .ref m18, .ref m19, .ref m20, .int 0, .ref m21]))] := hD
  refine lv_aload_n hx hb dX7_size_5 rfl (lv_at hl 0 rfl) ?_
  refine va_get (D := (dC, dI)) (ci := 7) (v := .int 0) (C := RX7) (T := TX7) (N := 39) hx hb hg i_X7 hown hK hP 0 rfl rfl 37 (by decide) (hg _ k_241) (fun _ h9 => h9) rfl dX7_size_6 ?_
  have hP9 := hP.sub (ws' := []) [] rfl
  have hD9 := hD.sub (ws' := []) [] (by decide) rfl
  refine W.widen (k := 0) (n := 0) (Nat.le_of_ble_eq_true rfl) (Nat.le_of_ble_eq_true rfl) ?_
  exact W.iret (v := 0) hx hb hr (fun t ht hW => ⟨⟨0, (), rfl, rfl, by rw [ht]; exact hP9, hD9⟩, hS.F ht⟩) hS.2.2 dX7_size_9

set_option maxHeartbeats 4000000 in
set_option maxRecDepth 100000 in
/-- unknowns() of a new reference -/
theorem c_X7_unknowns (l : Launch) (dC : Nat → ClassId) (dI : Nat → Nat → Nat) (cI cZ cL : ClassId) (h0 : Nat) (sz : Nat) (m1 m2 m3 m4 m5 m6 m7 m8 m9 m10 m11 m12 m13 m14 m15 m16 m17 m18 m19 m20 m21 : Nat) : Met l yX7_unknowns (wd yX7_unknowns cX7_unknowns 1 (some .int)) ({ frames := 0, cells := 0, slots := 0, locals := 0 }) (va_Pc [.ref h0] (hp dC dI cI cZ cL sz [(h0, .inr (7, [.int 0, .ref m1, .int 0, .int 0, .int 0, .int 0, .int (-1), .int 0, .int 0, .ref m2, .ref m3, .ref m4, .int 0, .ref m5, .ref m6, .ref m7, .int 0, .ref m8, .ref m9, .ref m10, .int 0, .int 0, .ref m11, .ref m12, .ref m13, .int 0, .int 0, .ref m14, .int 0, .ref m15, .ref m16, .ref m17, .int 0, .int 0, .ref m18, .ref m19, .ref m20, .int 0, .ref m21]))])) (va_Qi (fun (r : Int32) (_ : Unit) => r = 0) (fun (_ : Unit) t => va_P (dC, dI) vwCl [] t.heap ∧ va_D (va_A [(h0, .inr (7, [.int 0, .ref m1, .int 0, .int 0, .int 0, .int 0, .int (-1), .int 0, .int 0, .ref m2, .ref m3, .ref m4, .int 0, .ref m5, .ref m6, .ref m7, .int 0, .ref m8, .ref m9, .ref m10, .int 0, .int 0, .ref m11, .ref m12, .ref m13, .int 0, .int 0, .ref m14, .int 0, .ref m15, .ref m16, .ref m17, .int 0, .int 0, .ref m18, .ref m19, .ref m20, .int 0, .ref m21]))] sz) []) (va_A [(h0, .inr (7, [.int 0, .ref m1, .int 0, .int 0, .int 0, .int 0, .int (-1), .int 0, .int 0, .ref m2, .ref m3, .ref m4, .int 0, .ref m5, .ref m6, .ref m7, .int 0, .ref m8, .ref m9, .ref m10, .int 0, .int 0, .ref m11, .ref m12, .ref m13, .int 0, .int 0, .ref m14, .int 0, .ref m15, .ref m16, .ref m17, .int 0, .int 0, .ref m18, .ref m19, .ref m20, .int 0, .ref m21]))] sz)) 0 0 (va_A [(h0, .inr (7, [.int 0, .ref m1, .int 0, .int 0, .int 0, .int 0, .int (-1), .int 0, .int 0, .ref m2, .ref m3, .ref m4, .int 0, .ref m5, .ref m6, .ref m7, .int 0, .ref m8, .ref m9, .ref m10, .int 0, .int 0, .ref m11, .ref m12, .ref m13, .int 0, .int 0, .ref m14, .int 0, .ref m15, .ref m16, .ref m17, .int 0, .int 0, .ref m18, .ref m19, .ref m20, .int 0, .ref m21]))] sz) := by
  refine Met.ofW (cc := cX7_unknowns) (maxL := 1) (ret := (some .int)) (by decide) rfl ?_
  intro p e s m args below meth c s₁ B hml hv
  obtain ⟨rfl, hsz, hP, hK, hD0⟩ := hv
  have hx := B.exec
  have hb := B.bytes
  have hr := B.returns
  have hw9 := atoms_spec (ws := (wd yX7_unknowns cX7_unknowns 1 (some .int))) B.pre
  have hg := gw_hts hw9
  have hown : s.vm.findClass RX7 = some m.cls := findClass_of_methodNamed B.named
  have hlocks := B.notSynchronized
  subst hsz
  have hD := hD0.self (sz := s.heap.size)
  generalize hAe : va_A [(h0, .inr (7, [.int 0, .ref m1, .int 0, .int 0, .int 0, .int 0, .int (-1), .int 0, .int 0, .ref m2, .ref m3, .ref m4, .int 0, .ref m5, .ref m6, .ref m7, .int 0, .ref m8, .ref m9, .ref m10, .int 0, .int 0, .ref m11, .ref m12, .ref m13, .int 0, .int 0, .ref m14, .int 0, .ref m15, .ref m16, .ref m17, .int 0, .int 0, .ref m18, .ref m19, .ref m20, .int 0, .ref m21]))] s.heap.size = A at hD ⊢
  have hA : ∀ q : Nat, s.heap.size ≤ q → A q := fun q h => by rw [← hAe]; exact Or.inr h
  have hS : va_S A s.heap s.heap [] := va_S.rf
  have hl := lv_entry ([.ref h0]) (n := 1) (Nat.le_of_ble_eq_true rfl)
  rw [lg_entry_eq]
  generalize (lg_sl ([.ref h0]) ++ List.replicate (1 - (lg_sl ([.ref h0])).length) Slot.unset).toArray = ls at hl ⊢
  have hl : lv_has ls 1 [(0, .ref h0)] := hl
  refine lv_aload_n hx hb dX7_unknowns_0 rfl (lv_at hl 0 rfl) ?_
  refine lv_iconst (v := 0) hx hb dX7_unknowns_1 (by decide) ?_
  refine va_put (D := (dC, dI)) (ci := 7) (v := .int 0) (ty := .int) (C := RX7) (T := TX7) (N := 39) hx hb hg i_X7 tyX7 tyX7_ok nmX7 hown hK hP hD hS 0 rfl rfl 0 (by decide) (hg _ k_226) (fun _ h9 => h9) rfl (by decide +kernel) rfl rfl (Nat.le_of_ble_eq_true rfl) dX7_unknowns_2 (fun H locs hP hD hS => ?_)
  have hP : va_P (dC, dI) vwCl [(h0, .inr (7, [.int 0, .ref m1, .int 0, .int 0, .int 0, .int 0, .int (-1), .int 0, .int 0, .ref m2, .ref m3, .ref m4, .int 0, .ref m5, .ref m6, .ref m7, .int 0, .ref m8, .ref m9, .ref m10, .int 0, .int 0, .ref m11, .ref m12, .ref m13, .int 0, .int 0, .ref m14, .int 0, .ref m15, .ref m16, .ref m17, .int 0, .int 0, .ref m18, .ref m19, .ref m20, .int 0, .ref m21]))] H := hP
  have hD : va_D A [(h0, .inr (7, [.int 0, .ref m1, .int 0, .int 0, .int 0, .int 0, .int (-1), .int 0, .int 0, .ref m2, .ref m3, .ref m4, .int 0, .ref m5, .ref m6, .ref m7, .int 0, .ref m8, .ref m9, .ref m10, .int 0, .int 0, .ref m11, .ref m12, .ref m13, .int 0, .int 0, .ref m14, .int 0, .ref m15, .ref m16, .ref m17, .int 0, .int 0, .ref m18, .ref m19, .ref m20, .int 0, .ref m21]))] := hD
  refine lv_aload_n hx hb dX7_unknowns_5 rfl (lv_at hl 0 rfl) ?_
  refine va_get (D := (dC, dI)) (ci := 7) (v := .int 0) (C := RX7) (T := TX7) (N := 39) hx hb hg i_X7 hown hK hP 0 rfl rfl 25 (by decide) (hg _ k_237) (fun _ h9 => h9) rfl dX7_unknowns_6 ?_
  have hP9 := hP.sub (ws' := []) [] rfl
  have hD9 := hD.sub (ws' := []) [] (by decide) rfl
  refine W.widen (k := 0) (n := 0) (Nat.le_of_ble_eq_true rfl) (Nat.le_of_ble_eq_true rfl) ?_
  exact W.iret (v := 0) hx hb hr (fun t ht hW => ⟨⟨0, (), rfl, rfl, by rw [ht]; exact hP9, hD9⟩, hS.F ht⟩) hS.2.2 dX7_unknowns_9

set_option maxHeartbeats 4000000 in
set_option maxRecDepth 100000 in
/-- solved() of a new reference -/
theorem c_X7_solved (l : Launch) (dC : Nat → ClassId) (dI : Nat → Nat → Nat) (cI cZ cL : ClassId) (h0 : Nat) (sz : Nat) (m1 m2 m3 m4 m5 m6 m7 m8 m9 m10 m11 m12 m13 m14 m15 m16 m17 m18 m19 m20 m21 : Nat) : Met l yX7_solved (wd yX7_solved cX7_solved 1 (some .int)) ({ frames := 0, cells := 0, slots := 0, locals := 0 }) (va_Pc [.ref h0] (hp dC dI cI cZ cL sz [(h0, .inr (7, [.int 0, .ref m1, .int 0, .int 0, .int 0, .int 0, .int (-1), .int 0, .int 0, .ref m2, .ref m3, .ref m4, .int 0, .ref m5, .ref m6, .ref m7, .int 0, .ref m8, .ref m9, .ref m10, .int 0, .int 0, .ref m11, .ref m12, .ref m13, .int 0, .int 0, .ref m14, .int 0, .ref m15, .ref m16, .ref m17, .int 0, .int 0, .ref m18, .ref m19, .ref m20, .int 0, .ref m21]))])) (va_Qi (fun (r : Int32) (_ : Unit) => r = 0) (fun (_ : Unit) t => va_P (dC, dI) vwCl [] t.heap ∧ va_D (va_A [(h0, .inr (7, [.int 0, .ref m1, .int 0, .int 0, .int 0, .int 0, .int (-1), .int 0, .int 0, .ref m2, .ref m3, .ref m4, .int 0, .ref m5, .ref m6, .ref m7, .int 0, .ref m8, .ref m9, .ref m10, .int 0, .int 0, .ref m11, .ref m12, .ref m13, .int 0, .int 0, .ref m14, .int 0, .ref m15, .ref m16, .ref m17, .int 0, .int 0, .ref m18, .ref m19, .ref m20, .int 0, .ref m21]))] sz) []) (va_A [(h0, .inr (7, [.int 0, .ref m1, .int 0, .int 0, .int 0, .int 0, .int (-1), .int 0, .int 0, .ref m2, .ref m3, .ref m4, .int 0, .ref m5, .ref m6, .ref m7, .int 0, .ref m8, .ref m9, .ref m10, .int 0, .int 0, .ref m11, .ref m12, .ref m13, .int 0, .int 0, .ref m14, .int 0, .ref m15, .ref m16, .ref m17, .int 0, .int 0, .ref m18, .ref m19, .ref m20, .int 0, .ref m21]))] sz)) 0 0 (va_A [(h0, .inr (7, [.int 0, .ref m1, .int 0, .int 0, .int 0, .int 0, .int (-1), .int 0, .int 0, .ref m2, .ref m3, .ref m4, .int 0, .ref m5, .ref m6, .ref m7, .int 0, .ref m8, .ref m9, .ref m10, .int 0, .int 0, .ref m11, .ref m12, .ref m13, .int 0, .int 0, .ref m14, .int 0, .ref m15, .ref m16, .ref m17, .int 0, .int 0, .ref m18, .ref m19, .ref m20, .int 0, .ref m21]))] sz) := by
  refine Met.ofW (cc := cX7_solved) (maxL := 1) (ret := (some .int)) (by decide) rfl ?_
  intro p e s m args below meth c s₁ B hml hv
  obtain ⟨rfl, hsz, hP, hK, hD0⟩ := hv
  have hx := B.exec
  have hb := B.bytes
  have hr := B.returns
  have hw9 := atoms_spec (ws := (wd yX7_solved cX7_solved 1 (some .int))) B.pre
  have hg := gw_hts hw9
  have hown : s.vm.findClass RX7 = some m.cls := findClass_of_methodNamed B.named
  have hlocks := B.notSynchronized
  subst hsz
  have hD := hD0.self (sz := s.heap.size)
  generalize hAe : va_A [(h0, .inr (7, [.int 0, .ref m1, .int 0, .int 0, .int 0, .int 0, .int (-1), .int 0, .int 0, .ref m2, .ref m3, .ref m4, .int 0, .ref m5, .ref m6, .ref m7, .int 0, .ref m8, .ref m9, .ref m10, .int 0, .int 0, .ref m11, .ref m12, .ref m13, .int 0, .int 0, .ref m14, .int 0, .ref m15, .ref m16, .ref m17, .int 0, .int 0, .ref m18, .ref m19, .ref m20, .int 0, .ref m21]))] s.heap.size = A at hD ⊢
  have hA : ∀ q : Nat, s.heap.size ≤ q → A q := fun q h => by rw [← hAe]; exact Or.inr h
  have hS : va_S A s.heap s.heap [] := va_S.rf
  have hl := lv_entry ([.ref h0]) (n := 1) (Nat.le_of_ble_eq_true rfl)
  rw [lg_entry_eq]
  generalize (lg_sl ([.ref h0]) ++ List.replicate (1 - (lg_sl ([.ref h0])).length) Slot.unset).toArray = ls at hl ⊢
  have hl : lv_has ls 1 [(0, .ref h0)] := hl
  refine lv_aload_n hx hb dX7_solved_0 rfl (lv_at hl 0 rfl) ?_
  refine lv_iconst (v := 0) hx hb dX7_solved_1 (by decide) ?_
  refine va_put (D := (dC, dI)) (ci := 7) (v := .int 0) (ty := .int) (C := RX7) (T := TX7) (N := 39) hx hb hg i_X7 tyX7 tyX7_ok nmX7 hown hK hP hD hS 0 rfl rfl 0 (by decide) (hg _ k_226) (fun _ h9 => h9) rfl (by decide +kernel) rfl rfl (Nat.le_of_ble_eq_true rfl) dX7_solved_2 (fun H locs hP hD hS => ?_)
  have hP : va_P (dC, dI) vwCl [(h0, .inr (7, [.int 0, .ref m1, .int 0, .int 0, .int 0, .int 0, .int (-1), .int 0, .int 0, .ref m2, .ref m3, .ref m4, .int 0, .ref m5, .ref m6, .ref m7, .int 0, .ref m8, .ref m9, .ref m10, .int 0, .int 0, .ref m11, .ref m12, .ref m13, .int 0, .int 0, .ref m14, .int 0, .ref m15, .ref m16, .ref m17, .int 0, .int 0, .ref m18, .ref m19, .ref m20, .int 0, .ref m21]))] H := hP
  have hD : va_D A [(h0, .inr (7, [.int 0, .ref m1, .int 0, .int 0, .int 0, .int 0, .int (-1), .int 0, .int 0, .ref m2, .ref m3, .ref m4, .int 0, .ref m5, .ref m6, .ref m7, .int 0, .ref m8, .ref m9, .ref m10, .int 0, .int 0, .ref m11, .ref m12, .ref m13, .int 0, .int 0, .ref m14, .int 0, .ref m15, .ref m16, .ref m17, .int 0, .int 0, .ref m18, .ref m19, .ref m20, .int 0, .ref m21]))] := hD
  refine lv_aload_n hx hb dX7_solved_5 rfl (lv_at hl 0 rfl) ?_
  refine va_get (D := (dC, dI)) (ci := 7) (v := .int 0) (C := RX7) (T := TX7) (N := 39) hx hb hg i_X7 hown hK hP 0 rfl rfl 26 (by decide) (hg _ k_238) (fun _ h9 => h9) rfl dX7_solved_6 ?_
  have hP9 := hP.sub (ws' := []) [] rfl
  have hD9 := hD.sub (ws' := []) [] (by decide) rfl
  refine W.widen (k := 0) (n := 0) (Nat.le_of_ble_eq_true rfl) (Nat.le_of_ble_eq_true rfl) ?_
  exact W.iret (v := 0) hx hb hr (fun t ht hW => ⟨⟨0, (), rfl, rfl, by rw [ht]; exact hP9, hD9⟩, hS.F ht⟩) hS.2.2 dX7_solved_9

set_option maxHeartbeats 4000000 in
set_option maxRecDepth 100000 in
/-- out(i), i < 0 -/
theorem c_X7_outN (l : Launch) (dC : Nat → ClassId) (dI : Nat → Nat → Nat) (cI cZ cL : ClassId) (h0 : Nat) (sz : Nat) (m1 m2 m3 m4 m5 m6 m7 m8 m9 m10 m11 m12 m13 m14 m15 m16 m17 m18 m19 m20 m21 : Nat) (x : Int32) (hn : x < 0) : Met l yX7_out (wd yX7_out cX7_out 2 (some .int)) ({ frames := 1, cells := 0, slots := 0, locals := 22 }) (va_Pc [.ref h0, .int x] (hp dC dI cI cZ cL sz [(h0, .inr (7, [.int 0, .ref m1, .int 0, .int 0, .int 0, .int 0, .int (-1), .int 0, .int 0, .ref m2, .ref m3, .ref m4, .int 0, .ref m5, .ref m6, .ref m7, .int 0, .ref m8, .ref m9, .ref m10, .int 0, .int 0, .ref m11, .ref m12, .ref m13, .int 0, .int 0, .ref m14, .int 0, .ref m15, .ref m16, .ref m17, .int 0, .int 0, .ref m18, .ref m19, .ref m20, .int 0, .ref m21]))])) (va_Qi (fun (r : Int32) (_ : Unit) => r = 0) (fun (_ : Unit) t => va_P (dC, dI) vwCl [(h0, .inr (7, [.int 1, .ref m1, .int 0, .int 0, .int 0, .int 0, .int (-1), .int 0, .int 0, .ref m2, .ref m3, .ref m4, .int 0, .ref m5, .ref m6, .ref m7, .int 0, .ref m8, .ref m9, .ref m10, .int 0, .int 0, .ref m11, .ref m12, .ref m13, .int 0, .int 0, .ref m14, .int 0, .ref m15, .ref m16, .ref m17, .int 0, .int 0, .ref m18, .ref m19, .ref m20, .int 0, .ref m21]))] t.heap ∧ va_D (va_A [(h0, .inr (7, [.int 0, .ref m1, .int 0, .int 0, .int 0, .int 0, .int (-1), .int 0, .int 0, .ref m2, .ref m3, .ref m4, .int 0, .ref m5, .ref m6, .ref m7, .int 0, .ref m8, .ref m9, .ref m10, .int 0, .int 0, .ref m11, .ref m12, .ref m13, .int 0, .int 0, .ref m14, .int 0, .ref m15, .ref m16, .ref m17, .int 0, .int 0, .ref m18, .ref m19, .ref m20, .int 0, .ref m21]))] sz) [(h0, .inr (7, [.int 1, .ref m1, .int 0, .int 0, .int 0, .int 0, .int (-1), .int 0, .int 0, .ref m2, .ref m3, .ref m4, .int 0, .ref m5, .ref m6, .ref m7, .int 0, .ref m8, .ref m9, .ref m10, .int 0, .int 0, .ref m11, .ref m12, .ref m13, .int 0, .int 0, .ref m14, .int 0, .ref m15, .ref m16, .ref m17, .int 0, .int 0, .ref m18, .ref m19, .ref m20, .int 0, .ref m21]))]) (va_A [(h0, .inr (7, [.int 0, .ref m1, .int 0, .int 0, .int 0, .int 0, .int (-1), .int 0, .int 0, .ref m2, .ref m3, .ref m4, .int 0, .ref m5, .ref m6, .ref m7, .int 0, .ref m8, .ref m9, .ref m10, .int 0, .int 0, .ref m11, .ref m12, .ref m13, .int 0, .int 0, .ref m14, .int 0, .ref m15, .ref m16, .ref m17, .int 0, .int 0, .ref m18, .ref m19, .ref m20, .int 0, .ref m21]))] sz)) 0 0 (va_A [(h0, .inr (7, [.int 0, .ref m1, .int 0, .int 0, .int 0, .int 0, .int (-1), .int 0, .int 0, .ref m2, .ref m3, .ref m4, .int 0, .ref m5, .ref m6, .ref m7, .int 0, .ref m8, .ref m9, .ref m10, .int 0, .int 0, .ref m11, .ref m12, .ref m13, .int 0, .int 0, .ref m14, .int 0, .ref m15, .ref m16, .ref m17, .int 0, .int 0, .ref m18, .ref m19, .ref m20, .int 0, .ref m21]))] sz) := by
  refine Met.ofW (cc := cX7_out) (maxL := 2) (ret := (some .int)) (by decide) rfl ?_
  intro p e s m args below meth c s₁ B hml hv
  obtain ⟨rfl, hsz, hP, hK, hD0⟩ := hv
  have hx := B.exec
  have hb := B.bytes
  have hr := B.returns
  have hw9 := atoms_spec (ws := (wd yX7_out cX7_out 2 (some .int))) B.pre
  have hg := gw_hts hw9
  have hown : s.vm.findClass RX7 = some m.cls := findClass_of_methodNamed B.named
  have hlocks := B.notSynchronized
  subst hsz
  have hD := hD0.self (sz := s.heap.size)
  generalize hAe : va_A [(h0, .inr (7, [.int 0, .ref m1, .int 0, .int 0, .int 0, .int 0, .int (-1), .int 0, .int 0, .ref m2, .ref m3, .ref m4, .int 0, .ref m5, .ref m6, .ref m7, .int 0, .ref m8, .ref m9, .ref m10, .int 0, .int 0, .ref m11, .ref m12, .ref m13, .int 0, .int 0, .ref m14, .int 0, .ref m15, .ref m16, .ref m17, .int 0, .int 0, .ref m18, .ref m19, .ref m20, .int 0, .ref m21]))] s.heap.size = A at hD ⊢
  have hA : ∀ q : Nat, s.heap.size ≤ q → A q := fun q h => by rw [← hAe]; exact Or.inr h
  have hS : va_S A s.heap s.heap [] := va_S.rf
  have hl := lv_entry ([.ref h0, .int x]) (n := 2) (Nat.le_of_ble_eq_true rfl)
  rw [lg_entry_eq]
  generalize (lg_sl ([.ref h0, .int x]) ++ List.replicate (2 - (lg_sl ([.ref h0, .int x])).length) Slot.unset).toArray = ls at hl ⊢
  have hl : lv_has ls 2 [(0, .ref h0), (1, .int x)] := hl
  refine lv_aload_n hx hb dX7_out_0 rfl (lv_at hl 0 rfl) ?_
  refine lv_iload_n hx hb dX7_out_1 rfl (lv_at hl 1 rfl) ?_
  refine lv_if_lt (tgt := 13) hx hb dX7_out_2 (by decide) (fun _ => ?_) (fun c9 => absurd hn c9)
  refine lv_iconst (v := 1) hx hb dX7_out_13 (by decide) ?_
  refine lv_goto (tgt := 18) hx hb dX7_out_14 (by decide) ?_
  refine lv_iconst (v := 0) hx hb dX7_out_18 (by decide) ?_
  have hPc := hP.sub (ws' := [(h0, .inr (7, [.int 0, .ref m1, .int 0, .int 0, .int 0, .int 0, .int (-1), .int 0, .int 0, .ref m2, .ref m3, .ref m4, .int 0, .ref m5, .ref m6, .ref m7, .int 0, .ref m8, .ref m9, .ref m10, .int 0, .int 0, .ref m11, .ref m12, .ref m13, .int 0, .int 0, .ref m14, .int 0, .ref m15, .ref m16, .ref m17, .int 0, .int 0, .ref m18, .ref m19, .ref m20, .int 0, .ref m21]))]) [0] rfl
  have hDc := hD.sub (ws' := [(h0, .inr (7, [.int 0, .ref m1, .int 0, .int 0, .int 0, .int 0, .int (-1), .int 0, .int 0, .ref m2, .ref m3, .ref m4, .int 0, .ref m5, .ref m6, .ref m7, .int 0, .ref m8, .ref m9, .ref m10, .int 0, .int 0, .ref m11, .ref m12, .ref m13, .int 0, .int 0, .ref m14, .int 0, .ref m15, .ref m16, .ref m17, .int 0, .int 0, .ref m18, .ref m19, .ref m20, .int 0, .ref m21]))]) [0] (by decide) rfl
  have hFc := va_free (wc := [(h0, .inr (7, [.int 0, .ref m1, .int 0, .int 0, .int 0, .int 0, .int (-1), .int 0, .int 0, .ref m2, .ref m3, .ref m4, .int 0, .ref m5, .ref m6, .ref m7, .int 0, .ref m8, .ref m9, .ref m10, .int 0, .int 0, .ref m11, .ref m12, .ref m13, .int 0, .int 0, .ref m14, .int 0, .ref m15, .ref m16, .ref m17, .int 0, .int 0, .ref m18, .ref m19, .ref m20, .int 0, .ref m21]))]) hD hS hA [0] rfl
  refine va_calli (va_runV (As := [.int 1, .int 0]) (rest := []) ⟨hx, hb, hml, hown, hg⟩ (c_thrA l dC dI cI cZ cL h0 (Array.size _) [.ref m1, .int 0, .int 0, .int 0, .int 0, .int (-1), .int 0, .int 0, .ref m2, .ref m3, .ref m4, .int 0, .ref m5, .ref m6, .ref m7, .int 0, .ref m8, .ref m9, .ref m10, .int 0, .int 0, .ref m11, .ref m12, .ref m13, .int 0, .int 0, .ref m14, .int 0, .ref m15, .ref m16, .ref m17, .int 0, .int 0, .ref m18, .ref m19, .ref m20, .int 0, .ref m21]) (cwV 2 hg (gw_V k_260 k_261 k_262 k_245 g_yX7_throwing) rfl rfl rfl (by decide +kernel) ⟨(Nat.le_of_ble_eq_true rfl), (Nat.le_of_ble_eq_true rfl)⟩) ⟨hp_bl, va_recv hK hPc (ci := 7) (q0 := 0) rfl rfl, fun U hU hW => hp_ok hU hW hPc hK hDc⟩ rfl rfl hl.1 rfl (lv_room (Nat.le_of_ble_eq_true rfl)) dX7_out_19 ⟨(Nat.le_of_ble_eq_true rfl), (Nat.le_of_ble_eq_true rfl)⟩) hS (fun q _ h => hFc q h) hFc (fun r9 u t H locs ht hvm hw hB hz1 hk1 hS => ?_)
  obtain ⟨hP1, hD1⟩ := hB
  rw [ht] at hP1
  obtain ⟨hP, hD⟩ := va_join (wr := []) (w1 := [(h0, .inr (7, [.int 1, .ref m1, .int 0, .int 0, .int 0, .int 0, .int (-1), .int 0, .int 0, .ref m2, .ref m3, .ref m4, .int 0, .ref m5, .ref m6, .ref m7, .int 0, .ref m8, .ref m9, .ref m10, .int 0, .int 0, .ref m11, .ref m12, .ref m13, .int 0, .int 0, .ref m14, .int 0, .ref m15, .ref m16, .ref m17, .int 0, .int 0, .ref m18, .ref m19, .ref m20, .int 0, .ref m21]))]) hP hD [0] [] rfl rfl (by decide) (by decide) hk1 hFc hP1 hD1
  have hP : va_P (dC, dI) vwCl [(h0, .inr (7, [.int 1, .ref m1, .int 0, .int 0, .int 0, .int 0, .int (-1), .int 0, .int 0, .ref m2, .ref m3, .ref m4, .int 0, .ref m5, .ref m6, .ref m7, .int 0, .ref m8, .ref m9, .ref m10, .int 0, .int 0, .ref m11, .ref m12, .ref m13, .int 0, .int 0, .ref m14, .int 0, .ref m15, .ref m16, .ref m17, .int 0, .int 0, .ref m18, .ref m19, .ref m20, .int 0, .ref m21]))] H := hP
  have hD : va_D A [(h0, .inr (7, [.int 1, .ref m1, .int 0, .int 0, .int 0, .int 0, .int (-1), .int 0, .int 0, .ref m2, .ref m3, .ref m4, .int 0, .ref m5, .ref m6, .ref m7, .int 0, .ref m8, .ref m9, .ref m10, .int 0, .int 0, .ref m11, .ref m12, .ref m13, .int 0, .int 0, .ref m14, .int 0, .ref m15, .ref m16, .ref m17, .int 0, .int 0, .ref m18, .ref m19, .ref m20, .int 0, .ref m21]))] := hD
  refine W.widen (k := 0) (n := 0) (Nat.le_of_ble_eq_true rfl) (Nat.le_of_ble_eq_true rfl) ?_
  obtain rfl : r9 = 1 := hw
  refine lv_if_eq (tgt := 27) hx hb dX7_out_22 (by decide) (fun c9 => absurd c9 (by decide)) (fun _ => ?_)
  refine lv_iconst (v := 0) hx hb dX7_out_25 (by decide) ?_
  have hP9 := hP.sub (ws' := [(h0, .inr (7, [.int 1, .ref m1, .int 0, .int 0, .int 0, .int 0, .int (-1), .int 0, .int 0, .ref m2, .ref m3, .ref m4, .int 0, .ref m5, .ref m6, .ref m7, .int 0, .ref m8, .ref m9, .ref m10, .int 0, .int 0, .ref m11, .ref m12, .ref m13, .int 0, .int 0, .ref m14, .int 0, .ref m15, .ref m16, .ref m17, .int 0, .int 0, .ref m18, .ref m19, .ref m20, .int 0, .ref m21]))]) [0] rfl
  have hD9 := hD.sub (ws' := [(h0, .inr (7, [.int 1, .ref m1, .int 0, .int 0, .int 0, .int 0, .int (-1), .int 0, .int 0, .ref m2, .ref m3, .ref m4, .int 0, .ref m5, .ref m6, .ref m7, .int 0, .ref m8, .ref m9, .ref m10, .int 0, .int 0, .ref m11, .ref m12, .ref m13, .int 0, .int 0, .ref m14, .int 0, .ref m15, .ref m16, .ref m17, .int 0, .int 0, .ref m18, .ref m19, .ref m20, .int 0, .ref m21]))]) [0] (by decide) rfl
  refine W.widen (k := 0) (n := 0) (Nat.le_of_ble_eq_true rfl) (Nat.le_of_ble_eq_true rfl) ?_
  exact W.iret (v := 0) hx hb hr (fun t ht hW => ⟨⟨0, (), rfl, rfl, by rw [ht]; exact hP9, hD9⟩, hS.F ht⟩) hS.2.2 dX7_out_26

set_option maxHeartbeats 4000000 in
set_option maxRecDepth 100000 in
/-- out(i), 0 <= i -/
theorem c_X7_outP (l : Launch) (dC : Nat → ClassId) (dI : Nat → Nat → Nat) (cI cZ cL : ClassId) (h0 : Nat) (sz : Nat) (m1 m2 m3 m4 m5 m6 m7 m8 m9 m10 m11 m12 m13 m14 m15 m16 m17 m18 m19 m20 m21 : Nat) (x : Int32) (hn : ¬ x < 0) : Met l yX7_out (wd yX7_out cX7_out 2 (some .int)) ({ frames := 1, cells := 0, slots := 0, locals := 22 }) (va_Pc [.ref h0, .int x] (hp dC dI cI cZ cL sz [(h0, .inr (7, [.int 0, .ref m1, .int 0, .int 0, .int 0, .int 0, .int (-1), .int 0, .int 0, .ref m2, .ref m3, .ref m4, .int 0, .ref m5, .ref m6, .ref m7, .int 0, .ref m8, .ref m9, .ref m10, .int 0, .int 0, .ref m11, .ref m12, .ref m13, .int 0, .int 0, .ref m14, .int 0, .ref m15, .ref m16, .ref m17, .int 0, .int 0, .ref m18, .ref m19, .ref m20, .int 0, .ref m21]))])) (va_Qi (fun (r : Int32) (_ : Unit) => r = 0) (fun (_ : Unit) t => va_P (dC, dI) vwCl [(h0, .inr (7, [.int 1, .ref m1, .int 0, .int 0, .int 0, .int 0, .int (-1), .int 0, .int 0, .ref m2, .ref m3, .ref m4, .int 0, .ref m5, .ref m6, .ref m7, .int 0, .ref m8, .ref m9, .ref m10, .int 0, .int 0, .ref m11, .ref m12, .ref m13, .int 0, .int 0, .ref m14, .int 0, .ref m15, .ref m16, .ref m17, .int 0, .int 0, .ref m18, .ref m19, .ref m20, .int 0, .ref m21]))] t.heap ∧ va_D (va_A [(h0, .inr (7, [.int 0, .ref m1, .int 0, .int 0, .int 0, .int 0, .int (-1), .int 0, .int 0, .ref m2, .ref m3, .ref m4, .int 0, .ref m5, .ref m6, .ref m7, .int 0, .ref m8, .ref m9, .ref m10, .int 0, .int 0, .ref m11, .ref m12, .ref m13, .int 0, .int 0, .ref m14, .int 0, .ref m15, .ref m16, .ref m17, .int 0, .int 0, .ref m18, .ref m19, .ref m20, .int 0, .ref m21]))] sz) [(h0, .inr (7, [.int 1, .ref m1, .int 0, .int 0, .int 0, .int 0, .int (-1), .int 0, .int 0, .ref m2, .ref m3, .ref m4, .int 0, .ref m5, .ref m6, .ref m7, .int 0, .ref m8, .ref m9, .ref m10, .int 0, .int 0, .ref m11, .ref m12, .ref m13, .int 0, .int 0, .ref m14, .int 0, .ref m15, .ref m16, .ref m17, .int 0, .int 0, .ref m18, .ref m19, .ref m20, .int 0, .ref m21]))]) (va_A [(h0, .inr (7, [.int 0, .ref m1, .int 0, .int 0, .int 0, .int 0, .int (-1), .int 0, .int 0, .ref m2, .ref m3, .ref m4, .int 0, .ref m5, .ref m6, .ref m7, .int 0, .ref m8, .ref m9, .ref m10, .int 0, .int 0, .ref m11, .ref m12, .ref m13, .int 0, .int 0, .ref m14, .int 0, .ref m15, .ref m16, .ref m17, .int 0, .int 0, .ref m18, .ref m19, .ref m20, .int 0, .ref m21]))] sz)) 0 0 (va_A [(h0, .inr (7, [.int 0, .ref m1, .int 0, .int 0, .int 0, .int 0, .int (-1), .int 0, .int 0, .ref m2, .ref m3, .ref m4, .int 0, .ref m5, .ref m6, .ref m7, .int 0, .ref m8, .ref m9, .ref m10, .int 0, .int 0, .ref m11, .ref m12, .ref m13, .int 0, .int 0, .ref m14, .int 0, .ref m15, .ref m16, .ref m17, .int 0, .int 0, .ref m18, .ref m19, .ref m20, .int 0, .ref m21]))] sz) := by
  refine Met.ofW (cc := cX7_out) (maxL := 2) (ret := (some .int)) (by decide) rfl ?_
  intro p e s m args below meth c s₁ B hml hv
  obtain ⟨rfl, hsz, hP, hK, hD0⟩ := hv
  have hx := B.exec
  have hb := B.bytes
  have hr := B.returns
  have hw9 := atoms_spec (ws := (wd yX7_out cX7_out 2 (some .int))) B.pre
  have hg := gw_hts hw9
  have hown : s.vm.findClass RX7 = some m.cls := findClass_of_methodNamed B.named
  have hlocks := B.notSynchronized
  subst hsz
  have hD := hD0.self (sz := s.heap.size)
  generalize hAe : va_A [(h0, .inr (7, [.int 0, .ref m1, .int 0, .int 0, .int 0, .int 0, .int (-1), .int 0, .int 0, .ref m2, .ref m3, .ref m4, .int 0, .ref m5, .ref m6, .ref m7, .int 0, .ref m8, .ref m9, .ref m10, .int 0, .int 0, .ref m11, .ref m12, .ref m13, .int 0, .int 0, .ref m14, .int 0, .ref m15, .ref m16, .ref m17, .int 0, .int 0, .ref m18, .ref m19, .ref m20, .int 0, .ref m21]))] s.heap.size = A at hD ⊢
  have hA : ∀ q : Nat, s.heap.size ≤ q → A q := fun q h => by rw [← hAe]; exact Or.inr h
  have hS : va_S A s.heap s.heap [] := va_S.rf
  have hl := lv_entry ([.ref h0, .int x]) (n := 2) (Nat.le_of_ble_eq_true rfl)
  rw [lg_entry_eq]
  generalize (lg_sl ([.ref h0, .int x]) ++ List.replicate (2 - (lg_sl ([.ref h0, .int x])).length) Slot.unset).toArray = ls at hl ⊢
  have hl : lv_has ls 2 [(0, .ref h0), (1, .int x)] := hl
  refine lv_aload_n hx hb dX7_out_0 rfl (lv_at hl 0 rfl) ?_
  refine lv_iload_n hx hb dX7_out_1 rfl (lv_at hl 1 rfl) ?_
  refine lv_if_lt (tgt := 13) hx hb dX7_out_2 (by decide) (fun c9 => absurd c9 hn) (fun _ => ?_)
  refine lv_iload_n hx hb dX7_out_5 rfl (lv_at hl 1 rfl) ?_
  refine lv_aload_n hx hb dX7_out_6 rfl (lv_at hl 0 rfl) ?_
  refine va_get (D := (dC, dI)) (ci := 7) (v := .int 0) (C := RX7) (T := TX7) (N := 39) hx hb hg i_X7 hown hK hP 0 rfl rfl 37 (by decide) (hg _ k_241) (fun _ h9 => h9) rfl dX7_out_7 ?_
  refine lv_icmp_lt (tgt := 17) hx hb dX7_out_10 (by decide) (fun c9 => absurd c9 hn) (fun _ => ?_)
  refine lv_iconst (v := 1) hx hb dX7_out_13 (by decide) ?_
  refine lv_goto (tgt := 18) hx hb dX7_out_14 (by decide) ?_
  refine lv_iconst (v := 0) hx hb dX7_out_18 (by decide) ?_
  have hPc := hP.sub (ws' := [(h0, .inr (7, [.int 0, .ref m1, .int 0, .int 0, .int 0, .int 0, .int (-1), .int 0, .int 0, .ref m2, .ref m3, .ref m4, .int 0, .ref m5, .ref m6, .ref m7, .int 0, .ref m8, .ref m9, .ref m10, .int 0, .int 0, .ref m11, .ref m12, .ref m13, .int 0, .int 0, .ref m14, .int 0, .ref m15, .ref m16, .ref m17, .int 0, .int 0, .ref m18, .ref m19, .ref m20, .int 0, .ref m21]))]) [0] rfl
  have hDc := hD.sub (ws' := [(h0, .inr (7, [.int 0, .ref m1, .int 0, .int 0, .int 0, .int 0, .int (-1), .int 0, .int 0, .ref m2, .ref m3, .ref m4, .int 0, .ref m5, .ref m6, .ref m7, .int 0, .ref m8, .ref m9, .ref m10, .int 0, .int 0, .ref m11, .ref m12, .ref m13, .int 0, .int 0, .ref m14, .int 0, .ref m15, .ref m16, .ref m17, .int 0, .int 0, .ref m18, .ref m19, .ref m20, .int 0, .ref m21]))]) [0] (by decide) rfl
  have hFc := va_free (wc := [(h0, .inr (7, [.int 0, .ref m1, .int 0, .int 0, .int 0, .int 0, .int (-1), .int 0, .int 0, .ref m2, .ref m3, .ref m4, .int 0, .ref m5, .ref m6, .ref m7, .int 0, .ref m8, .ref m9, .ref m10, .int 0, .int 0, .ref m11, .ref m12, .ref m13, .int 0, .int 0, .ref m14, .int 0, .ref m15, .ref m16, .ref m17, .int 0, .int 0, .ref m18, .ref m19, .ref m20, .int 0, .ref m21]))]) hD hS hA [0] rfl
  refine va_calli (va_runV (As := [.int 1, .int 0]) (rest := []) ⟨hx, hb, hml, hown, hg⟩ (c_thrA l dC dI cI cZ cL h0 (Array.size _) [.ref m1, .int 0, .int 0, .int 0, .int 0, .int (-1), .int 0, .int 0, .ref m2, .ref m3, .ref m4, .int 0, .ref m5, .ref m6, .ref m7, .int 0, .ref m8, .ref m9, .ref m10, .int 0, .int 0, .ref m11, .ref m12, .ref m13, .int 0, .int 0, .ref m14, .int 0, .ref m15, .ref m16, .ref m17, .int 0, .int 0, .ref m18, .ref m19, .ref m20, .int 0, .ref m21]) (cwV 2 hg (gw_V k_260 k_261 k_262 k_245 g_yX7_throwing) rfl rfl rfl (by decide +kernel) ⟨(Nat.le_of_ble_eq_true rfl), (Nat.le_of_ble_eq_true rfl)⟩) ⟨hp_bl, va_recv hK hPc (ci := 7) (q0 := 0) rfl rfl, fun U hU hW => hp_ok hU hW hPc hK hDc⟩ rfl rfl hl.1 rfl (lv_room (Nat.le_of_ble_eq_true rfl)) dX7_out_19 ⟨(Nat.le_of_ble_eq_true rfl), (Nat.le_of_ble_eq_true rfl)⟩) hS (fun q _ h => hFc q h) hFc (fun r9 u t H locs ht hvm hw hB hz1 hk1 hS => ?_)
  obtain ⟨hP1, hD1⟩ := hB
  rw [ht] at hP1
  obtain ⟨hP, hD⟩ := va_join (wr := []) (w1 := [(h0, .inr (7, [.int 1, .ref m1, .int 0, .int 0, .int 0, .int 0, .int (-1), .int 0, .int 0, .ref m2, .ref m3, .ref m4, .int 0, .ref m5, .ref m6, .ref m7, .int 0, .ref m8, .ref m9, .ref m10, .int 0, .int 0, .ref m11, .ref m12, .ref m13, .int 0, .int 0, .ref m14, .int 0, .ref m15, .ref m16, .ref m17, .int 0, .int 0, .ref m18, .ref m19, .ref m20, .int 0, .ref m21]))]) hP hD [0] [] rfl rfl (by decide) (by decide) hk1 hFc hP1 hD1
  have hP : va_P (dC, dI) vwCl [(h0, .inr (7, [.int 1, .ref m1, .int 0, .int 0, .int 0, .int 0, .int (-1), .int 0, .int 0, .ref m2, .ref m3, .ref m4, .int 0, .ref m5, .ref m6, .ref m7, .int 0, .ref m8, .ref m9, .ref m10, .int 0, .int 0, .ref m11, .ref m12, .ref m13, .int 0, .int 0, .ref m14, .int 0, .ref m15, .ref m16, .ref m17, .int 0, .int 0, .ref m18, .ref m19, .ref m20, .int 0, .ref m21]))] H := hP
  have hD : va_D A [(h0, .inr (7, [.int 1, .ref m1, .int 0, .int 0, .int 0, .int 0, .int (-1), .int 0, .int 0, .ref m2, .ref m3, .ref m4, .int 0, .ref m5, .ref m6, .ref m7, .int 0, .ref m8, .ref m9, .ref m10, .int 0, .int 0, .ref m11, .ref m12, .ref m13, .int 0, .int 0, .ref m14, .int 0, .ref m15, .ref m16, .ref m17, .int 0, .int 0, .ref m18, .ref m19, .ref m20, .int 0, .ref m21]))] := hD
  refine W.widen (k := 0) (n := 0) (Nat.le_of_ble_eq_true rfl) (Nat.le_of_ble_eq_true rfl) ?_
  obtain rfl : r9 = 1 := hw
  refine lv_if_eq (tgt := 27) hx hb dX7_out_22 (by decide) (fun c9 => absurd c9 (by decide)) (fun _ => ?_)
  refine lv_iconst (v := 0) hx hb dX7_out_25 (by decide) ?_
  have hP9 := hP.sub (ws' := [(h0, .inr (7, [.int 1, .ref m1, .int 0, .int 0, .int 0, .int 0, .int (-1), .int 0, .int 0, .ref m2, .ref m3, .ref m4, .int 0, .ref m5, .ref m6, .ref m7, .int 0, .ref m8, .ref m9, .ref m10, .int 0, .int 0, .ref m11, .ref m12, .ref m13, .int 0, .int 0, .ref m14, .int 0, .ref m15, .ref m16, .ref m17, .int 0, .int 0, .ref m18, .ref m19, .ref m20, .int 0, .ref m21]))]) [0] rfl
  have hD9 := hD.sub (ws' := [(h0, .inr (7, [.int 1, .ref m1, .int 0, .int 0, .int 0, .int 0, .int (-1), .int 0, .int 0, .ref m2, .ref m3, .ref m4, .int 0, .ref m5, .ref m6, .ref m7, .int 0, .ref m8, .ref m9, .ref m10, .int 0, .int 0, .ref m11, .ref m12, .ref m13, .int 0, .int 0, .ref m14, .int 0, .ref m15, .ref m16, .ref m17, .int 0, .int 0, .ref m18, .ref m19, .ref m20, .int 0, .ref m21]))]) [0] (by decide) rfl
  refine W.widen (k := 0) (n := 0) (Nat.le_of_ble_eq_true rfl) (Nat.le_of_ble_eq_true rfl) ?_
  exact W.iret (v := 0) hx hb hr (fun t ht hW => ⟨⟨0, (), rfl, rfl, by rw [ht]; exact hP9, hD9⟩, hS.F ht⟩) hS.2.2 dX7_out_26

set_option maxHeartbeats 4000000 in
set_option maxRecDepth 100000 in
/-- feed(.., n), n < 1 -/
theorem c_X7_feedL (l : Launch) (dC : Nat → ClassId) (dI : Nat → Nat → Nat) (cI cZ cL : ClassId) (h0 : Nat) (sz : Nat) (m1 m2 m3 m4 m5 m6 m7 m8 m9 m10 m11 m12 m13 m14 m15 m16 m17 m18 m19 m20 m21 : Nat) (b : Int64) (x : Int32) (hn : x < 1) : Met l yX7_feed (wd yX7_feed cX7_feed 6 (some .int)) ({ frames := 1, cells := 0, slots := 0, locals := 22 }) (va_Pc [.ref h0, .long b, .int x] (hp dC dI cI cZ cL sz [(h0, .inr (7, [.int 0, .ref m1, .int 0, .int 0, .int 0, .int 0, .int (-1), .int 0, .int 0, .ref m2, .ref m3, .ref m4, .int 0, .ref m5, .ref m6, .ref m7, .int 0, .ref m8, .ref m9, .ref m10, .int 0, .int 0, .ref m11, .ref m12, .ref m13, .int 0, .int 0, .ref m14, .int 0, .ref m15, .ref m16, .ref m17, .int 0, .int 0, .ref m18, .ref m19, .ref m20, .int 0, .ref m21]))])) (va_Qi (fun (r : Int32) (_ : Unit) => r = 0) (fun (_ : Unit) t => va_P (dC, dI) vwCl [(h0, .inr (7, [.int 1, .ref m1, .int 0, .int 0, .int 0, .int 0, .int (-1), .int 0, .int 0, .ref m2, .ref m3, .ref m4, .int 0, .ref m5, .ref m6, .ref m7, .int 0, .ref m8, .ref m9, .ref m10, .int 0, .int 0, .ref m11, .ref m12, .ref m13, .int 0, .int 0, .ref m14, .int 0, .ref m15, .ref m16, .ref m17, .int 0, .int 0, .ref m18, .ref m19, .ref m20, .int 0, .ref m21]))] t.heap ∧ va_D (va_A [(h0, .inr (7, [.int 0, .ref m1, .int 0, .int 0, .int 0, .int 0, .int (-1), .int 0, .int 0, .ref m2, .ref m3, .ref m4, .int 0, .ref m5, .ref m6, .ref m7, .int 0, .ref m8, .ref m9, .ref m10, .int 0, .int 0, .ref m11, .ref m12, .ref m13, .int 0, .int 0, .ref m14, .int 0, .ref m15, .ref m16, .ref m17, .int 0, .int 0, .ref m18, .ref m19, .ref m20, .int 0, .ref m21]))] sz) [(h0, .inr (7, [.int 1, .ref m1, .int 0, .int 0, .int 0, .int 0, .int (-1), .int 0, .int 0, .ref m2, .ref m3, .ref m4, .int 0, .ref m5, .ref m6, .ref m7, .int 0, .ref m8, .ref m9, .ref m10, .int 0, .int 0, .ref m11, .ref m12, .ref m13, .int 0, .int 0, .ref m14, .int 0, .ref m15, .ref m16, .ref m17, .int 0, .int 0, .ref m18, .ref m19, .ref m20, .int 0, .ref m21]))]) (va_A [(h0, .inr (7, [.int 0, .ref m1, .int 0, .int 0, .int 0, .int 0, .int (-1), .int 0, .int 0, .ref m2, .ref m3, .ref m4, .int 0, .ref m5, .ref m6, .ref m7, .int 0, .ref m8, .ref m9, .ref m10, .int 0, .int 0, .ref m11, .ref m12, .ref m13, .int 0, .int 0, .ref m14, .int 0, .ref m15, .ref m16, .ref m17, .int 0, .int 0, .ref m18, .ref m19, .ref m20, .int 0, .ref m21]))] sz)) 0 0 (va_A [(h0, .inr (7, [.int 0, .ref m1, .int 0, .int 0, .int 0, .int 0, .int (-1), .int 0, .int 0, .ref m2, .ref m3, .ref m4, .int 0, .ref m5, .ref m6, .ref m7, .int 0, .ref m8, .ref m9, .ref m10, .int 0, .int 0, .ref m11, .ref m12, .ref m13, .int 0, .int 0, .ref m14, .int 0, .ref m15, .ref m16, .ref m17, .int 0, .int 0, .ref m18, .ref m19, .ref m20, .int 0, .ref m21]))] sz) := by
  refine Met.ofW (cc := cX7_feed) (maxL := 6) (ret := (some .int)) (by decide) rfl ?_
  intro p e s m args below meth c s₁ B hml hv
  obtain ⟨rfl, hsz, hP, hK, hD0⟩ := hv
  have hx := B.exec
  have hb := B.bytes
  have hr := B.returns
  have hw9 := atoms_spec (ws := (wd yX7_feed cX7_feed 6 (some .int))) B.pre
  have hg := gw_hts hw9
  have hown : s.vm.findClass RX7 = some m.cls := findClass_of_methodNamed B.named
  have hlocks := B.notSynchronized
  subst hsz
  have hD := hD0.self (sz := s.heap.size)
  generalize hAe : va_A [(h0, .inr (7, [.int 0, .ref m1, .int 0, .int 0, .int 0, .int 0, .int (-1), .int 0, .int 0, .ref m2, .ref m3, .ref m4, .int 0, .ref m5, .ref m6, .ref m7, .int 0, .ref m8, .ref m9, .ref m10, .int 0, .int 0, .ref m11, .ref m12, .ref m13, .int 0, .int 0, .ref m14, .int 0, .ref m15, .ref m16, .ref m17, .int 0, .int 0, .ref m18, .ref m19, .ref m20, .int 0, .ref m21]))] s.heap.size = A at hD ⊢
  have hA : ∀ q : Nat, s.heap.size ≤ q → A q := fun q h => by rw [← hAe]; exact Or.inr h
  have hS : va_S A s.heap s.heap [] := va_S.rf
  have hl := lv_entry ([.ref h0, .long b, .int x]) (n := 6) (Nat.le_of_ble_eq_true rfl)
  rw [lg_entry_eq]
  generalize (lg_sl ([.ref h0, .long b, .int x]) ++ List.replicate (6 - (lg_sl ([.ref h0, .long b, .int x])).length) Slot.unset).toArray = ls at hl ⊢
  have hl : lv_has ls 6 [(0, .ref h0), (1, .long b), (3, .int x)] := hl
  refine lv_iload_n hx hb dX7_feed_0 rfl (lv_at hl 2 rfl) ?_
  refine lv_iconst (v := 1) hx hb dX7_feed_1 (by decide) ?_
  refine lv_icmp_lt (tgt := 11) hx hb dX7_feed_2 (by decide) (fun _ => ?_) (fun c9 => absurd hn c9)
  refine lv_iconst (v := 1) hx hb dX7_feed_11 (by decide) ?_
  refine lv_goto (tgt := 16) hx hb dX7_feed_12 (by decide) ?_
  refine lv_istore (lv' := [(4, .int 1), (0, .ref h0), (1, .long b), (3, .int x)]) hx hb dX7_feed_16 hl (by decide) rfl (fun ls hl => ?_)
  refine lv_aload_n hx hb dX7_feed_18 rfl (lv_at hl 1 rfl) ?_
  refine lv_iload hx hb dX7_feed_19 (lv_at hl 0 rfl) ?_
  refine lv_iload hx hb dX7_feed_21 (lv_at hl 0 rfl) ?_
  refine lv_if_ne (tgt := 41) hx hb dX7_feed_23 (by decide) (fun _ => ?_) (fun c9 => absurd c9 (by decide))
  refine lv_iconst (v := 0) hx hb dX7_feed_41 (by decide) ?_
  have hPc := hP.sub (ws' := [(h0, .inr (7, [.int 0, .ref m1, .int 0, .int 0, .int 0, .int 0, .int (-1), .int 0, .int 0, .ref m2, .ref m3, .ref m4, .int 0, .ref m5, .ref m6, .ref m7, .int 0, .ref m8, .ref m9, .ref m10, .int 0, .int 0, .ref m11, .ref m12, .ref m13, .int 0, .int 0, .ref m14, .int 0, .ref m15, .ref m16, .ref m17, .int 0, .int 0, .ref m18, .ref m19, .ref m20, .int 0, .ref m21]))]) [0] rfl
  have hDc := hD.sub (ws' := [(h0, .inr (7, [.int 0, .ref m1, .int 0, .int 0, .int 0, .int 0, .int (-1), .int 0, .int 0, .ref m2, .ref m3, .ref m4, .int 0, .ref m5, .ref m6, .ref m7, .int 0, .ref m8, .ref m9, .ref m10, .int 0, .int 0, .ref m11, .ref m12, .ref m13, .int 0, .int 0, .ref m14, .int 0, .ref m15, .ref m16, .ref m17, .int 0, .int 0, .ref m18, .ref m19, .ref m20, .int 0, .ref m21]))]) [0] (by decide) rfl
  have hFc := va_free (wc := [(h0, .inr (7, [.int 0, .ref m1, .int 0, .int 0, .int 0, .int 0, .int (-1), .int 0, .int 0, .ref m2, .ref m3, .ref m4, .int 0, .ref m5, .ref m6, .ref m7, .int 0, .ref m8, .ref m9, .ref m10, .int 0, .int 0, .ref m11, .ref m12, .ref m13, .int 0, .int 0, .ref m14, .int 0, .ref m15, .ref m16, .ref m17, .int 0, .int 0, .ref m18, .ref m19, .ref m20, .int 0, .ref m21]))]) hD hS hA [0] rfl
  refine va_calli (va_runV (As := [.int 1, .int 0]) (rest := []) ⟨hx, hb, hml, hown, hg⟩ (c_thrA l dC dI cI cZ cL h0 (Array.size _) [.ref m1, .int 0, .int 0, .int 0, .int 0, .int (-1), .int 0, .int 0, .ref m2, .ref m3, .ref m4, .int 0, .ref m5, .ref m6, .ref m7, .int 0, .ref m8, .ref m9, .ref m10, .int 0, .int 0, .ref m11, .ref m12, .ref m13, .int 0, .int 0, .ref m14, .int 0, .ref m15, .ref m16, .ref m17, .int 0, .int 0, .ref m18, .ref m19, .ref m20, .int 0, .ref m21]) (cwV 2 hg (gw_V k_260 k_261 k_262 k_245 g_yX7_throwing) rfl rfl rfl (by decide +kernel) ⟨(Nat.le_of_ble_eq_true rfl), (Nat.le_of_ble_eq_true rfl)⟩) ⟨hp_bl, va_recv hK hPc (ci := 7) (q0 := 0) rfl rfl, fun U hU hW => hp_ok hU hW hPc hK hDc⟩ rfl rfl hl.1 rfl (lv_room (Nat.le_of_ble_eq_true rfl)) dX7_feed_42 ⟨(Nat.le_of_ble_eq_true rfl), (Nat.le_of_ble_eq_true rfl)⟩) hS (fun q _ h => hFc q h) hFc (fun r9 u t H locs ht hvm hw hB hz1 hk1 hS => ?_)
  obtain ⟨hP1, hD1⟩ := hB
  rw [ht] at hP1
  obtain ⟨hP, hD⟩ := va_join (wr := []) (w1 := [(h0, .inr (7, [.int 1, .ref m1, .int 0, .int 0, .int 0, .int 0, .int (-1), .int 0, .int 0, .ref m2, .ref m3, .ref m4, .int 0, .ref m5, .ref m6, .ref m7, .int 0, .ref m8, .ref m9, .ref m10, .int 0, .int 0, .ref m11, .ref m12, .ref m13, .int 0, .int 0, .ref m14, .int 0, .ref m15, .ref m16, .ref m17, .int 0, .int 0, .ref m18, .ref m19, .ref m20, .int 0, .ref m21]))]) hP hD [0] [] rfl rfl (by decide) (by decide) hk1 hFc hP1 hD1
  have hP : va_P (dC, dI) vwCl [(h0, .inr (7, [.int 1, .ref m1, .int 0, .int 0, .int 0, .int 0, .int (-1), .int 0, .int 0, .ref m2, .ref m3, .ref m4, .int 0, .ref m5, .ref m6, .ref m7, .int 0, .ref m8, .ref m9, .ref m10, .int 0, .int 0, .ref m11, .ref m12, .ref m13, .int 0, .int 0, .ref m14, .int 0, .ref m15, .ref m16, .ref m17, .int 0, .int 0, .ref m18, .ref m19, .ref m20, .int 0, .ref m21]))] H := hP
  have hD : va_D A [(h0, .inr (7, [.int 1, .ref m1, .int 0, .int 0, .int 0, .int 0, .int (-1), .int 0, .int 0, .ref m2, .ref m3, .ref m4, .int 0, .ref m5, .ref m6, .ref m7, .int 0, .ref m8, .ref m9, .ref m10, .int 0, .int 0, .ref m11, .ref m12, .ref m13, .int 0, .int 0, .ref m14, .int 0, .ref m15, .ref m16, .ref m17, .int 0, .int 0, .ref m18, .ref m19, .ref m20, .int 0, .ref m21]))] := hD
  refine W.widen (k := 0) (n := 0) (Nat.le_of_ble_eq_true rfl) (Nat.le_of_ble_eq_true rfl) ?_
  obtain rfl : r9 = 1 := hw
  refine lv_if_eq (tgt := 50) hx hb dX7_feed_45 (by decide) (fun c9 => absurd c9 (by decide)) (fun _ => ?_)
  refine lv_iconst (v := 0) hx hb dX7_feed_48 (by decide) ?_
  have hP9 := hP.sub (ws' := [(h0, .inr (7, [.int 1, .ref m1, .int 0, .int 0, .int 0, .int 0, .int (-1), .int 0, .int 0, .ref m2, .ref m3, .ref m4, .int 0, .ref m5, .ref m6, .ref m7, .int 0, .ref m8, .ref m9, .ref m10, .int 0, .int 0, .ref m11, .ref m12, .ref m13, .int 0, .int 0, .ref m14, .int 0, .ref m15, .ref m16, .ref m17, .int 0, .int 0, .ref m18, .ref m19, .ref m20, .int 0, .ref m21]))]) [0] rfl
  have hD9 := hD.sub (ws' := [(h0, .inr (7, [.int 1, .ref m1, .int 0, .int 0, .int 0, .int 0, .int (-1), .int 0, .int 0, .ref m2, .ref m3, .ref m4, .int 0, .ref m5, .ref m6, .ref m7, .int 0, .ref m8, .ref m9, .ref m10, .int 0, .int 0, .ref m11, .ref m12, .ref m13, .int 0, .int 0, .ref m14, .int 0, .ref m15, .ref m16, .ref m17, .int 0, .int 0, .ref m18, .ref m19, .ref m20, .int 0, .ref m21]))]) [0] (by decide) rfl
  refine W.widen (k := 0) (n := 0) (Nat.le_of_ble_eq_true rfl) (Nat.le_of_ble_eq_true rfl) ?_
  exact W.iret (v := 0) hx hb hr (fun t ht hW => ⟨⟨0, (), rfl, rfl, by rw [ht]; exact hP9, hD9⟩, hS.F ht⟩) hS.2.2 dX7_feed_49

set_option maxHeartbeats 4000000 in
set_option maxRecDepth 100000 in
/-- feed(.., n), n > 8 -/
theorem c_X7_feedH (l : Launch) (dC : Nat → ClassId) (dI : Nat → Nat → Nat) (cI cZ cL : ClassId) (h0 : Nat) (sz : Nat) (m1 m2 m3 m4 m5 m6 m7 m8 m9 m10 m11 m12 m13 m14 m15 m16 m17 m18 m19 m20 m21 : Nat) (b : Int64) (x : Int32) (hn : ¬ x < 1) (hm : ¬ x ≤ 8) : Met l yX7_feed (wd yX7_feed cX7_feed 6 (some .int)) ({ frames := 1, cells := 0, slots := 0, locals := 22 }) (va_Pc [.ref h0, .long b, .int x] (hp dC dI cI cZ cL sz [(h0, .inr (7, [.int 0, .ref m1, .int 0, .int 0, .int 0, .int 0, .int (-1), .int 0, .int 0, .ref m2, .ref m3, .ref m4, .int 0, .ref m5, .ref m6, .ref m7, .int 0, .ref m8, .ref m9, .ref m10, .int 0, .int 0, .ref m11, .ref m12, .ref m13, .int 0, .int 0, .ref m14, .int 0, .ref m15, .ref m16, .ref m17, .int 0, .int 0, .ref m18, .ref m19, .ref m20, .int 0, .ref m21]))])) (va_Qi (fun (r : Int32) (_ : Unit) => r = 0) (fun (_ : Unit) t => va_P (dC, dI) vwCl [(h0, .inr (7, [.int 1, .ref m1, .int 0, .int 0, .int 0, .int 0, .int (-1), .int 0, .int 0, .ref m2, .ref m3, .ref m4, .int 0, .ref m5, .ref m6, .ref m7, .int 0, .ref m8, .ref m9, .ref m10, .int 0, .int 0, .ref m11, .ref m12, .ref m13, .int 0, .int 0, .ref m14, .int 0, .ref m15, .ref m16, .ref m17, .int 0, .int 0, .ref m18, .ref m19, .ref m20, .int 0, .ref m21]))] t.heap ∧ va_D (va_A [(h0, .inr (7, [.int 0, .ref m1, .int 0, .int 0, .int 0, .int 0, .int (-1), .int 0, .int 0, .ref m2, .ref m3, .ref m4, .int 0, .ref m5, .ref m6, .ref m7, .int 0, .ref m8, .ref m9, .ref m10, .int 0, .int 0, .ref m11, .ref m12, .ref m13, .int 0, .int 0, .ref m14, .int 0, .ref m15, .ref m16, .ref m17, .int 0, .int 0, .ref m18, .ref m19, .ref m20, .int 0, .ref m21]))] sz) [(h0, .inr (7, [.int 1, .ref m1, .int 0, .int 0, .int 0, .int 0, .int (-1), .int 0, .int 0, .ref m2, .ref m3, .ref m4, .int 0, .ref m5, .ref m6, .ref m7, .int 0, .ref m8, .ref m9, .ref m10, .int 0, .int 0, .ref m11, .ref m12, .ref m13, .int 0, .int 0, .ref m14, .int 0, .ref m15, .ref m16, .ref m17, .int 0, .int 0, .ref m18, .ref m19, .ref m20, .int 0, .ref m21]))]) (va_A [(h0, .inr (7, [.int 0, .ref m1, .int 0, .int 0, .int 0, .int 0, .int (-1), .int 0, .int 0, .ref m2, .ref m3, .ref m4, .int 0, .ref m5, .ref m6, .ref m7, .int 0, .ref m8, .ref m9, .ref m10, .int 0, .int 0, .ref m11, .ref m12, .ref m13, .int 0, .int 0, .ref m14, .int 0, .ref m15, .ref m16, .ref m17, .int 0, .int 0, .ref m18, .ref m19, .ref m20, .int 0, .ref m21]))] sz)) 0 0 (va_A [(h0, .inr (7, [.int 0, .ref m1, .int 0, .int 0, .int 0, .int 0, .int (-1), .int 0, .int 0, .ref m2, .ref m3, .ref m4, .int 0, .ref m5, .ref m6, .ref m7, .int 0, .ref m8, .ref m9, .ref m10, .int 0, .int 0, .ref m11, .ref m12, .ref m13, .int 0, .int 0, .ref m14, .int 0, .ref m15, .ref m16, .ref m17, .int 0, .int 0, .ref m18, .ref m19, .ref m20, .int 0, .ref m21]))] sz) := by
  refine Met.ofW (cc := cX7_feed) (maxL := 6) (ret := (some .int)) (by decide) rfl ?_
  intro p e s m args below meth c s₁ B hml hv
  obtain ⟨rfl, hsz, hP, hK, hD0⟩ := hv
  have hx := B.exec
  have hb := B.bytes
  have hr := B.returns
  have hw9 := atoms_spec (ws := (wd yX7_feed cX7_feed 6 (some .int))) B.pre
  have hg := gw_hts hw9
  have hown : s.vm.findClass RX7 = some m.cls := findClass_of_methodNamed B.named
  have hlocks := B.notSynchronized
  subst hsz
  have hD := hD0.self (sz := s.heap.size)
  generalize hAe : va_A [(h0, .inr (7, [.int 0, .ref m1, .int 0, .int 0, .int 0, .int 0, .int (-1), .int 0, .int 0, .ref m2, .ref m3, .ref m4, .int 0, .ref m5, .ref m6, .ref m7, .int 0, .ref m8, .ref m9, .ref m10, .int 0, .int 0, .ref m11, .ref m12, .ref m13, .int 0, .int 0, .ref m14, .int 0, .ref m15, .ref m16, .ref m17, .int 0, .int 0, .ref m18, .ref m19, .ref m20, .int 0, .ref m21]))] s.heap.size = A at hD ⊢
  have hA : ∀ q : Nat, s.heap.size ≤ q → A q := fun q h => by rw [← hAe]; exact Or.inr h
  have hS : va_S A s.heap s.heap [] := va_S.rf
  have hl := lv_entry ([.ref h0, .long b, .int x]) (n := 6) (Nat.le_of_ble_eq_true rfl)
  rw [lg_entry_eq]
  generalize (lg_sl ([.ref h0, .long b, .int x]) ++ List.replicate (6 - (lg_sl ([.ref h0, .long b, .int x])).length) Slot.unset).toArray = ls at hl ⊢
  have hl : lv_has ls 6 [(0, .ref h0), (1, .long b), (3, .int x)] := hl
  refine lv_iload_n hx hb dX7_feed_0 rfl (lv_at hl 2 rfl) ?_
  refine lv_iconst (v := 1) hx hb dX7_feed_1 (by decide) ?_
  refine lv_icmp_lt (tgt := 11) hx hb dX7_feed_2 (by decide) (fun c9 => absurd c9 hn) (fun _ => ?_)
  refine lv_iload_n hx hb dX7_feed_5 rfl (lv_at hl 2 rfl) ?_
  refine lv_bipush (v := 8) hx hb dX7_feed_6 (by decide) ?_
  refine lv_icmp_le (tgt := 15) hx hb dX7_feed_8 (by decide) (fun c9 => absurd c9 hm) (fun _ => ?_)
  refine lv_iconst (v := 1) hx hb dX7_feed_11 (by decide) ?_
  refine lv_goto (tgt := 16) hx hb dX7_feed_12 (by decide) ?_
  refine lv_istore (lv' := [(4, .int 1), (0, .ref h0), (1, .long b), (3, .int x)]) hx hb dX7_feed_16 hl (by decide) rfl (fun ls hl => ?_)
  refine lv_aload_n hx hb dX7_feed_18 rfl (lv_at hl 1 rfl) ?_
  refine lv_iload hx hb dX7_feed_19 (lv_at hl 0 rfl) ?_
  refine lv_iload hx hb dX7_feed_21 (lv_at hl 0 rfl) ?_
  refine lv_if_ne (tgt := 41) hx hb dX7_feed_23 (by decide) (fun _ => ?_) (fun c9 => absurd c9 (by decide))
  refine lv_iconst (v := 0) hx hb dX7_feed_41 (by decide) ?_
  have hPc := hP.sub (ws' := [(h0, .inr (7, [.int 0, .ref m1, .int 0, .int 0, .int 0, .int 0, .int (-1), .int 0, .int 0, .ref m2, .ref m3, .ref m4, .int 0, .ref m5, .ref m6, .ref m7, .int 0, .ref m8, .ref m9, .ref m10, .int 0, .int 0, .ref m11, .ref m12, .ref m13, .int 0, .int 0, .ref m14, .int 0, .ref m15, .ref m16, .ref m17, .int 0, .int 0, .ref m18, .ref m19, .ref m20, .int 0, .ref m21]))]) [0] rfl
  have hDc := hD.sub (ws' := [(h0, .inr (7, [.int 0, .ref m1, .int 0, .int 0, .int 0, .int 0, .int (-1), .int 0, .int 0, .ref m2, .ref m3, .ref m4, .int 0, .ref m5, .ref m6, .ref m7, .int 0, .ref m8, .ref m9, .ref m10, .int 0, .int 0, .ref m11, .ref m12, .ref m13, .int 0, .int 0, .ref m14, .int 0, .ref m15, .ref m16, .ref m17, .int 0, .int 0, .ref m18, .ref m19, .ref m20, .int 0, .ref m21]))]) [0] (by decide) rfl
  have hFc := va_free (wc := [(h0, .inr (7, [.int 0, .ref m1, .int 0, .int 0, .int 0, .int 0, .int (-1), .int 0, .int 0, .ref m2, .ref m3, .ref m4, .int 0, .ref m5, .ref m6, .ref m7, .int 0, .ref m8, .ref m9, .ref m10, .int 0, .int 0, .ref m11, .ref m12, .ref m13, .int 0, .int 0, .ref m14, .int 0, .ref m15, .ref m16, .ref m17, .int 0, .int 0, .ref m18, .ref m19, .ref m20, .int 0, .ref m21]))]) hD hS hA [0] rfl
  refine va_calli (va_runV (As := [.int 1, .int 0]) (rest := []) ⟨hx, hb, hml, hown, hg⟩ (c_thrA l dC dI cI cZ cL h0 (Array.size _) [.ref m1, .int 0, .int 0, .int 0, .int 0, .int (-1), .int 0, .int 0, .ref m2, .ref m3, .ref m4, .int 0, .ref m5, .ref m6, .ref m7, .int 0, .ref m8, .ref m9, .ref m10, .int 0, .int 0, .ref m11, .ref m12, .ref m13, .int 0, .int 0, .ref m14, .int 0, .ref m15, .ref m16, .ref m17, .int 0, .int 0, .ref m18, .ref m19, .ref m20, .int 0, .ref m21]) (cwV 2 hg (gw_V k_260 k_261 k_262 k_245 g_yX7_throwing) rfl rfl rfl (by decide +kernel) ⟨(Nat.le_of_ble_eq_true rfl), (Nat.le_of_ble_eq_true rfl)⟩) ⟨hp_bl, va_recv hK hPc (ci := 7) (q0 := 0) rfl rfl, fun U hU hW => hp_ok hU hW hPc hK hDc⟩ rfl rfl hl.1 rfl (lv_room (Nat.le_of_ble_eq_true rfl)) dX7_feed_42 ⟨(Nat.le_of_ble_eq_true rfl), (Nat.le_of_ble_eq_true rfl)⟩) hS (fun q _ h => hFc q h) hFc (fun r9 u t H locs ht hvm hw hB hz1 hk1 hS => ?_)
  obtain ⟨hP1, hD1⟩ := hB
  rw [ht] at hP1
  obtain ⟨hP, hD⟩ := va_join (wr := []) (w1 := [(h0, .inr (7, [.int 1, .ref m1, .int 0, .int 0, .int 0, .int 0, .int (-1), .int 0, .int 0, .ref m2, .ref m3, .ref m4, .int 0, .ref m5, .ref m6, .ref m7, .int 0, .ref m8, .ref m9, .ref m10, .int 0, .int 0, .ref m11, .ref m12, .ref m13, .int 0, .int 0, .ref m14, .int 0, .ref m15, .ref m16, .ref m17, .int 0, .int 0, .ref m18, .ref m19, .ref m20, .int 0, .ref m21]))]) hP hD [0] [] rfl rfl (by decide) (by decide) hk1 hFc hP1 hD1
  have hP : va_P (dC, dI) vwCl [(h0, .inr (7, [.int 1, .ref m1, .int 0, .int 0, .int 0, .int 0, .int (-1), .int 0, .int 0, .ref m2, .ref m3, .ref m4, .int 0, .ref m5, .ref m6, .ref m7, .int 0, .ref m8, .ref m9, .ref m10, .int 0, .int 0, .ref m11, .ref m12, .ref m13, .int 0, .int 0, .ref m14, .int 0, .ref m15, .ref m16, .ref m17, .int 0, .int 0, .ref m18, .ref m19, .ref m20, .int 0, .ref m21]))] H := hP
  have hD : va_D A [(h0, .inr (7, [.int 1, .ref m1, .int 0, .int 0, .int 0, .int 0, .int (-1), .int 0, .int 0, .ref m2, .ref m3, .ref m4, .int 0, .ref m5, .ref m6, .ref m7, .int 0, .ref m8, .ref m9, .ref m10, .int 0, .int 0, .ref m11, .ref m12, .ref m13, .int 0, .int 0, .ref m14, .int 0, .ref m15, .ref m16, .ref m17, .int 0, .int 0, .ref m18, .ref m19, .ref m20, .int 0, .ref m21]))] := hD
  refine W.widen (k := 0) (n := 0) (Nat.le_of_ble_eq_true rfl) (Nat.le_of_ble_eq_true rfl) ?_
  obtain rfl : r9 = 1 := hw
  refine lv_if_eq (tgt := 50) hx hb dX7_feed_45 (by decide) (fun c9 => absurd c9 (by decide)) (fun _ => ?_)
  refine lv_iconst (v := 0) hx hb dX7_feed_48 (by decide) ?_
  have hP9 := hP.sub (ws' := [(h0, .inr (7, [.int 1, .ref m1, .int 0, .int 0, .int 0, .int 0, .int (-1), .int 0, .int 0, .ref m2, .ref m3, .ref m4, .int 0, .ref m5, .ref m6, .ref m7, .int 0, .ref m8, .ref m9, .ref m10, .int 0, .int 0, .ref m11, .ref m12, .ref m13, .int 0, .int 0, .ref m14, .int 0, .ref m15, .ref m16, .ref m17, .int 0, .int 0, .ref m18, .ref m19, .ref m20, .int 0, .ref m21]))]) [0] rfl
  have hD9 := hD.sub (ws' := [(h0, .inr (7, [.int 1, .ref m1, .int 0, .int 0, .int 0, .int 0, .int (-1), .int 0, .int 0, .ref m2, .ref m3, .ref m4, .int 0, .ref m5, .ref m6, .ref m7, .int 0, .ref m8, .ref m9, .ref m10, .int 0, .int 0, .ref m11, .ref m12, .ref m13, .int 0, .int 0, .ref m14, .int 0, .ref m15, .ref m16, .ref m17, .int 0, .int 0, .ref m18, .ref m19, .ref m20, .int 0, .ref m21]))]) [0] (by decide) rfl
  refine W.widen (k := 0) (n := 0) (Nat.le_of_ble_eq_true rfl) (Nat.le_of_ble_eq_true rfl) ?_
  exact W.iret (v := 0) hx hb hr (fun t ht hW => ⟨⟨0, (), rfl, rfl, by rw [ht]; exact hP9, hD9⟩, hS.F ht⟩) hS.2.2 dX7_feed_49

/-- the reference's count-down: behind m bytes still to come it stands at m - 1 -/
def sk : Nat → Int32 | 0 => -1 | k + 1 => nI k
theorem sk_lt : ∀ k, k < 9 → ¬ sk (k + 1) < 0 := by decide
theorem sk_st : ∀ k, k < 9 → sk (k + 1) + Int32.ofInt (-1) = sk k := by decide
theorem sk_in : ∀ j, j < 9 → 0 < j → nI j - 1 = sk j := by decide
theorem sj_lo : ∀ j, j < 9 → 0 < j → ¬ nI j < 1 := by decide
theorem sj_hi : ∀ j, j < 9 → nI j ≤ 8 := by decide
theorem sj_60 : ∀ j, j < 9 → 0 + nI j ≤ 60 := by decide

set_option maxHeartbeats 4000000 in
set_option maxRecDepth 100000 in
theorem lp_feed7 {p : Program} {l : Launch} {e : Env} {R : Room} {s : State} {m : MethodId} {args : Array Value} {below : List Frame} {meth : Method} {c : Code} {Q : State → Prop} {cells slots : Nat} {dC : Nat → ClassId} {dI : Nat → Nat → Nat} {cI cZ cL : ClassId} {A : Nat → Prop} {h0 m1 m2 m3 m4 m5 m6 m7 m8 m9 m10 m11 m12 m13 m14 m15 m16 m17 m18 m19 m20 m21 : Nat} {b : Int64} {x : Int32} {j : Nat} (hj : j < 9) (hx : p.tables.exec = Jvm.exec) (hb : c.code = cX7_feed) (hg : ∀ w ∈ gw_all, w.before args s = true) (hown : s.vm.findClass RX7 = some m.cls) (hK : va_K (dC, dI) vwCl (t3 cI cZ cL) s)
    (kk : ∀ (f : Nat → Int32) (H : Heap) (locs : List Loc) (ls : Array Slot), va_P (dC, dI) vwCl [(h0, .inr (7, [.int 0, .ref m1, .int (nI j), .int 0, .int 0, .int 0, .int (-1), .int 0, .int 0, .ref m2, .ref m3, .ref m4, .int 0, .ref m5, .ref m6, .ref m7, .int 0, .ref m8, .ref m9, .ref m10, .int 0, .int 0, .ref m11, .ref m12, .ref m13, .int 0, .int 0, .ref m14, .int 0, .ref m15, .ref m16, .ref m17, .int 0, .int 0, .ref m18, .ref m19, .ref m20, .int 0, .ref m21])), (m1, .inl (cI, 60, .inl f))] H → va_D A [(h0, .inr (7, [.int 0, .ref m1, .int (nI j), .int 0, .int 0, .int 0, .int (-1), .int 0, .int 0, .ref m2, .ref m3, .ref m4, .int 0, .ref m5, .ref m6, .ref m7, .int 0, .ref m8, .ref m9, .ref m10, .int 0, .int 0, .ref m11, .ref m12, .ref m13, .int 0, .int 0, .ref m14, .int 0, .ref m15, .ref m16, .ref m17, .int 0, .int 0, .ref m18, .ref m19, .ref m20, .int 0, .ref m21])), (m1, .inl (cI, 60, .inl f))] → va_S A s.heap H locs → lv_has ls 6 [(0, .ref h0)] → W p l e R s m args below meth c H locs cells slots Q (F0 m 97 ls [])) :
    ∀ (k i : Nat), i + k = j → ∀ (f : Nat → Int32) (H : Heap) (locs : List Loc) (ls : Array Slot), va_P (dC, dI) vwCl [(h0, .inr (7, [.int 0, .ref m1, .int (nI i), .int 0, .int 0, .int 0, .int (-1), .int 0, .int 0, .ref m2, .ref m3, .ref m4, .int 0, .ref m5, .ref m6, .ref m7, .int 0, .ref m8, .ref m9, .ref m10, .int 0, .int 0, .ref m11, .ref m12, .ref m13, .int 0, .int 0, .ref m14, .int 0, .ref m15, .ref m16, .ref m17, .int 0, .int 0, .ref m18, .ref m19, .ref m20, .int 0, .ref m21])), (m1, .inl (cI, 60, .inl f))] H → va_D A [(h0, .inr (7, [.int 0, .ref m1, .int (nI i), .int 0, .int 0, .int 0, .int (-1), .int 0, .int 0, .ref m2, .ref m3, .ref m4, .int 0, .ref m5, .ref m6, .ref m7, .int 0, .ref m8, .ref m9, .ref m10, .int 0, .int 0, .ref m11, .ref m12, .ref m13, .int 0, .int 0, .ref m14, .int 0, .ref m15, .ref m16, .ref m17, .int 0, .int 0, .ref m18, .ref m19, .ref m20, .int 0, .ref m21])), (m1, .inl (cI, 60, .inl f))] → va_S A s.heap H locs → lv_has ls 6 [(0, .ref h0), (1, .long b), (3, .int x), (5, .int (sk k))] → W p l e R s m args below meth c H locs cells slots Q (F0 m 55 ls []) := by
  intro k
  induction k with
  | zero =>
    intro i hi f H locs ls hP hD hS hl
    obtain rfl : i = j := by omega
    refine lv_iload hx hb dX7_feed_55 (lv_at hl 3 rfl) ?_
    exact lv_if_lt (tgt := 97) hx hb dX7_feed_57 (by decide) (fun _ => kk f H locs ls hP hD hS (lv_sub hl [0] rfl)) (fun c9 => absurd (by decide) c9)
  | succ k ih =>
    intro i hi f H locs ls hP hD hS hl
    refine lv_iload hx hb dX7_feed_55 (lv_at hl 3 rfl) ?_
    refine lv_if_lt (tgt := 97) hx hb dX7_feed_57 (by decide) (fun c9 => absurd c9 (sk_lt k (by omega))) (fun _ => ?_)
    refine lv_aload_n hx hb dX7_feed_60 rfl (lv_at hl 0 rfl) ?_
    refine va_get (D := (dC, dI)) (ci := 7) (v := .ref m1) (C := RX7) (T := TX7) (N := 39) hx hb hg i_X7 hown hK hP 0 rfl rfl 1 (by decide) (hg _ k_98) (fun _ h9 => h9) rfl dX7_feed_61 ?_
    refine lv_aload_n hx hb dX7_feed_64 rfl (lv_at hl 0 rfl) ?_
    refine va_get (D := (dC, dI)) (ci := 7) (v := .int (nI i)) (C := RX7) (T := TX7) (N := 39) hx hb hg i_X7 hown hK hP 0 rfl rfl 2 (by decide) (hg _ k_231) (fun _ h9 => h9) rfl dX7_feed_65 ?_
    refine lv_lload_n hx hb dX7_feed_68 rfl (lv_at hl 1 rfl) ?_
    refine lv_bipush (v := 8) hx hb dX7_feed_69 (by decide) ?_
    refine lv_iload hx hb dX7_feed_71 (lv_at hl 3 rfl) ?_
    refine lv_imul hx hb dX7_feed_73 ?_
    refine lv_topi (fun z1 ez1 => ?_)
    refine lv_lshr hx hb dX7_feed_74 rfl ?_
    refine lv_topl (fun z2 ez2 => ?_)
    refine lv_l2i hx hb dX7_feed_75 rfl ?_
    refine lv_topi (fun z3 ez3 => ?_)
    refine lv_sipush (v := 255) hx hb dX7_feed_76 (by decide) ?_
    refine lv_iand hx hb dX7_feed_79 ?_
    refine lv_topi (fun z4 ez4 => ?_)
    refine va_iast hx hb hK hP hD hS 1 0 rfl rfl (vp_in_nI (by omega) (by omega)) dX7_feed_80 (fun H locs hP hD hS => ?_)
    generalize upd f (Int32.toNatClampNeg (nI i)) (z4 : Int32) = f5 at hP hD
    have hP : va_P (dC, dI) vwCl [(h0, .inr (7, [.int 0, .ref m1, .int (nI i), .int 0, .int 0, .int 0, .int (-1), .int 0, .int 0, .ref m2, .ref m3, .ref m4, .int 0, .ref m5, .ref m6, .ref m7, .int 0, .ref m8, .ref m9, .ref m10, .int 0, .int 0, .ref m11, .ref m12, .ref m13, .int 0, .int 0, .ref m14, .int 0, .ref m15, .ref m16, .ref m17, .int 0, .int 0, .ref m18, .ref m19, .ref m20, .int 0, .ref m21])), (m1, .inl (cI, 60, .inl f5))] H := hP
    have hD : va_D A [(h0, .inr (7, [.int 0, .ref m1, .int (nI i), .int 0, .int 0, .int 0, .int (-1), .int 0, .int 0, .ref m2, .ref m3, .ref m4, .int 0, .ref m5, .ref m6, .ref m7, .int 0, .ref m8, .ref m9, .ref m10, .int 0, .int 0, .ref m11, .ref m12, .ref m13, .int 0, .int 0, .ref m14, .int 0, .ref m15, .ref m16, .ref m17, .int 0, .int 0, .ref m18, .ref m19, .ref m20, .int 0, .ref m21])), (m1, .inl (cI, 60, .inl f5))] := hD
    refine lv_aload_n hx hb dX7_feed_81 rfl (lv_at hl 0 rfl) ?_
    refine lv_dup hx hb dX7_feed_82 rfl ?_
    refine va_get (D := (dC, dI)) (ci := 7) (v := .int (nI i)) (C := RX7) (T := TX7) (N := 39) hx hb hg i_X7 hown hK hP 0 rfl rfl 2 (by decide) (hg _ k_231) (fun _ h9 => h9) rfl dX7_feed_83 ?_
    refine lv_iconst (v := 1) hx hb dX7_feed_86 (by decide) ?_
    refine lv_iadd hx hb dX7_feed_87 ?_
    refine lv_topi (fun z6 ez6 => ?_)
    obtain rfl : z6 = nI (i + 1) := ez6.trans (nI_1 i)
    refine va_put (D := (dC, dI)) (ci := 7) (v := .int (nI (i + 1))) (ty := .int) (C := RX7) (T := TX7) (N := 39) hx hb hg i_X7 tyX7 tyX7_ok nmX7 hown hK hP hD hS 0 rfl rfl 2 (by decide) (hg _ k_231) (fun _ h9 => h9) rfl (by decide +kernel) rfl rfl (Nat.le_of_ble_eq_true rfl) dX7_feed_88 (fun H locs hP hD hS => ?_)
    have hP : va_P (dC, dI) vwCl [(h0, .inr (7, [.int 0, .ref m1, .int (nI (i + 1)), .int 0, .int 0, .int 0, .int (-1), .int 0, .int 0, .ref m2, .ref m3, .ref m4, .int 0, .ref m5, .ref m6, .ref m7, .int 0, .ref m8, .ref m9, .ref m10, .int 0, .int 0, .ref m11, .ref m12, .ref m13, .int 0, .int 0, .ref m14, .int 0, .ref m15, .ref m16, .ref m17, .int 0, .int 0, .ref m18, .ref m19, .ref m20, .int 0, .ref m21])), (m1, .inl (cI, 60, .inl f5))] H := hP
    have hD : va_D A [(h0, .inr (7, [.int 0, .ref m1, .int (nI (i + 1)), .int 0, .int 0, .int 0, .int (-1), .int 0, .int 0, .ref m2, .ref m3, .ref m4, .int 0, .ref m5, .ref m6, .ref m7, .int 0, .ref m8, .ref m9, .ref m10, .int 0, .int 0, .ref m11, .ref m12, .ref m13, .int 0, .int 0, .ref m14, .int 0, .ref m15, .ref m16, .ref m17, .int 0, .int 0, .ref m18, .ref m19, .ref m20, .int 0, .ref m21])), (m1, .inl (cI, 60, .inl f5))] := hD
    refine lv_iinc (v := sk k) (lv' := [(5, .int (sk k)), (0, .ref h0), (1, .long b), (3, .int x)]) hx hb dX7_feed_91 hl (k := 3) rfl (sk_st k (by omega)) (by decide) rfl (fun ls hl => ?_)
    refine lv_goto (tgt := 55) hx hb dX7_feed_94 (by decide) ?_
    exact ih (i + 1) (by omega) _ H locs ls hP hD hS (lv_sub hl [1, 2, 3, 0] rfl)

set_option maxHeartbeats 4000000 in
set_option maxRecDepth 100000 in
/-- feed(.., n), 1 <= n <= 8 -/
theorem c_X7_feedG (l : Launch) (dC : Nat → ClassId) (dI : Nat → Nat → Nat) (cI cZ cL : ClassId) (h0 m1 : Nat) (sz : Nat) (m2 m3 m4 m5 m6 m7 m8 m9 m10 m11 m12 m13 m14 m15 m16 m17 m18 m19 m20 m21 : Nat) (b : Int64) (j : Nat) (hj : j < 9) (h1 : 0 < j) : Met l yX7_feed (wd yX7_feed cX7_feed 6 (some .int)) ({ frames := 1, cells := 0, slots := 0, locals := 22 }) (va_Pc [.ref h0, .long b, .int (nI j)] (hp dC dI cI cZ cL sz [(h0, .inr (7, [.int 0, .ref m1, .int 0, .int 0, .int 0, .int 0, .int (-1), .int 0, .int 0, .ref m2, .ref m3, .ref m4, .int 0, .ref m5, .ref m6, .ref m7, .int 0, .ref m8, .ref m9, .ref m10, .int 0, .int 0, .ref m11, .ref m12, .ref m13, .int 0, .int 0, .ref m14, .int 0, .ref m15, .ref m16, .ref m17, .int 0, .int 0, .ref m18, .ref m19, .ref m20, .int 0, .ref m21])), (m1, .inl (cI, 60, .inl zI))])) (va_Qi (fun (r : Int32) (_ : Unit) => r = nI j) (fun (_ : Unit) t => va_P (dC, dI) vwCl [(h0, .inr (7, [.int 0, .ref m1, .int (nI j), .int 0, .int 0, .int 0, .int (-1), .int 0, .int 0, .ref m2, .ref m3, .ref m4, .int 0, .ref m5, .ref m6, .ref m7, .int 0, .ref m8, .ref m9, .ref m10, .int 0, .int 0, .ref m11, .ref m12, .ref m13, .int 0, .int 0, .ref m14, .int 0, .ref m15, .ref m16, .ref m17, .int 0, .int 0, .ref m18, .ref m19, .ref m20, .int 0, .ref m21]))] t.heap ∧ va_D (va_A [(h0, .inr (7, [.int 0, .ref m1, .int 0, .int 0, .int 0, .int 0, .int (-1), .int 0, .int 0, .ref m2, .ref m3, .ref m4, .int 0, .ref m5, .ref m6, .ref m7, .int 0, .ref m8, .ref m9, .ref m10, .int 0, .int 0, .ref m11, .ref m12, .ref m13, .int 0, .int 0, .ref m14, .int 0, .ref m15, .ref m16, .ref m17, .int 0, .int 0, .ref m18, .ref m19, .ref m20, .int 0, .ref m21])), (m1, .inl (cI, 60, .inl zI))] sz) [(h0, .inr (7, [.int 0, .ref m1, .int (nI j), .int 0, .int 0, .int 0, .int (-1), .int 0, .int 0, .ref m2, .ref m3, .ref m4, .int 0, .ref m5, .ref m6, .ref m7, .int 0, .ref m8, .ref m9, .ref m10, .int 0, .int 0, .ref m11, .ref m12, .ref m13, .int 0, .int 0, .ref m14, .int 0, .ref m15, .ref m16, .ref m17, .int 0, .int 0, .ref m18, .ref m19, .ref m20, .int 0, .ref m21]))]) (va_A [(h0, .inr (7, [.int 0, .ref m1, .int 0, .int 0, .int 0, .int 0, .int (-1), .int 0, .int 0, .ref m2, .ref m3, .ref m4, .int 0, .ref m5, .ref m6, .ref m7, .int 0, .ref m8, .ref m9, .ref m10, .int 0, .int 0, .ref m11, .ref m12, .ref m13, .int 0, .int 0, .ref m14, .int 0, .ref m15, .ref m16, .ref m17, .int 0, .int 0, .ref m18, .ref m19, .ref m20, .int 0, .ref m21])), (m1, .inl (cI, 60, .inl zI))] sz)) 0 0 (va_A [(h0, .inr (7, [.int 0, .ref m1, .int 0, .int 0, .int 0, .int 0, .int (-1), .int 0, .int 0, .ref m2, .ref m3, .ref m4, .int 0, .ref m5, .ref m6, .ref m7, .int 0, .ref m8, .ref m9, .ref m10, .int 0, .int 0, .ref m11, .ref m12, .ref m13, .int 0, .int 0, .ref m14, .int 0, .ref m15, .ref m16, .ref m17, .int 0, .int 0, .ref m18, .ref m19, .ref m20, .int 0, .ref m21])), (m1, .inl (cI, 60, .inl zI))] sz) := by
  refine Met.ofW (cc := cX7_feed) (maxL := 6) (ret := (some .int)) (by decide) rfl ?_
  intro p e s m args below meth c s₁ B hml hv
  obtain ⟨rfl, hsz, hP, hK, hD0⟩ := hv
  have hx := B.exec
  have hb := B.bytes
  have hr := B.returns
  have hw9 := atoms_spec (ws := (wd yX7_feed cX7_feed 6 (some .int))) B.pre
  have hg := gw_hts hw9
  have hown : s.vm.findClass RX7 = some m.cls := findClass_of_methodNamed B.named
  have hlocks := B.notSynchronized
  subst hsz
  have hD := hD0.self (sz := s.heap.size)
  generalize hAe : va_A [(h0, .inr (7, [.int 0, .ref m1, .int 0, .int 0, .int 0, .int 0, .int (-1), .int 0, .int 0, .ref m2, .ref m3, .ref m4, .int 0, .ref m5, .ref m6, .ref m7, .int 0, .ref m8, .ref m9, .ref m10, .int 0, .int 0, .ref m11, .ref m12, .ref m13, .int 0, .int 0, .ref m14, .int 0, .ref m15, .ref m16, .ref m17, .int 0, .int 0, .ref m18, .ref m19, .ref m20, .int 0, .ref m21])), (m1, .inl (cI, 60, .inl zI))] s.heap.size = A at hD ⊢
  have hA : ∀ q : Nat, s.heap.size ≤ q → A q := fun q h => by rw [← hAe]; exact Or.inr h
  have hS : va_S A s.heap s.heap [] := va_S.rf
  have hl := lv_entry ([.ref h0, .long b, .int (nI j)]) (n := 6) (Nat.le_of_ble_eq_true rfl)
  rw [lg_entry_eq]
  generalize (lg_sl ([.ref h0, .long b, .int (nI j)]) ++ List.replicate (6 - (lg_sl ([.ref h0, .long b, .int (nI j)])).length) Slot.unset).toArray = ls at hl ⊢
  have hl : lv_has ls 6 [(0, .ref h0), (1, .long b), (3, .int (nI j))] := hl
  refine lv_iload_n hx hb dX7_feed_0 rfl (lv_at hl 2 rfl) ?_
  refine lv_iconst (v := 1) hx hb dX7_feed_1 (by decide) ?_
  refine lv_icmp_lt (tgt := 11) hx hb dX7_feed_2 (by decide) (fun c9 => absurd c9 (sj_lo j hj h1)) (fun _ => ?_)
  refine lv_iload_n hx hb dX7_feed_5 rfl (lv_at hl 2 rfl) ?_
  refine lv_bipush (v := 8) hx hb dX7_feed_6 (by decide) ?_
  refine lv_icmp_le (tgt := 15) hx hb dX7_feed_8 (by decide) (fun _ => ?_) (fun c9 => absurd (sj_hi j hj) c9)
  refine lv_iconst (v := 0) hx hb dX7_feed_15 (by decide) ?_
  refine lv_istore (lv' := [(4, .int 0), (0, .ref h0), (1, .long b), (3, .int (nI j))]) hx hb dX7_feed_16 hl (by decide) rfl (fun ls hl => ?_)
  refine lv_aload_n hx hb dX7_feed_18 rfl (lv_at hl 1 rfl) ?_
  refine lv_iload hx hb dX7_feed_19 (lv_at hl 0 rfl) ?_
  refine lv_iload hx hb dX7_feed_21 (lv_at hl 0 rfl) ?_
  refine lv_if_ne (tgt := 41) hx hb dX7_feed_23 (by decide) (fun c9 => absurd c9 (by decide)) (fun _ => ?_)
  refine lv_aload_n hx hb dX7_feed_26 rfl (lv_at hl 1 rfl) ?_
  refine va_get (D := (dC, dI)) (ci := 7) (v := .int 0) (C := RX7) (T := TX7) (N := 39) hx hb hg i_X7 hown hK hP 0 rfl rfl 2 (by decide) (hg _ k_231) (fun _ h9 => h9) rfl dX7_feed_27 ?_
  refine lv_iload_n hx hb dX7_feed_30 rfl (lv_at hl 3 rfl) ?_
  refine lv_iadd hx hb dX7_feed_31 ?_
  refine lv_topi (fun z1 ez1 => ?_)
  refine lv_bipush (v := 60) hx hb dX7_feed_32 (by decide) ?_
  refine lv_icmp_le (tgt := 41) hx hb dX7_feed_34 (by decide) (fun _ => ?_) (fun c9 => absurd (by rw [ez1]; exact sj_60 j hj) c9)
  refine lv_iconst (v := 0) hx hb dX7_feed_41 (by decide) ?_
  have hPc := hP.sub (ws' := [(h0, .inr (7, [.int 0, .ref m1, .int 0, .int 0, .int 0, .int 0, .int (-1), .int 0, .int 0, .ref m2, .ref m3, .ref m4, .int 0, .ref m5, .ref m6, .ref m7, .int 0, .ref m8, .ref m9, .ref m10, .int 0, .int 0, .ref m11, .ref m12, .ref m13, .int 0, .int 0, .ref m14, .int 0, .ref m15, .ref m16, .ref m17, .int 0, .int 0, .ref m18, .ref m19, .ref m20, .int 0, .ref m21]))]) [0] rfl
  have hDc := hD.sub (ws' := [(h0, .inr (7, [.int 0, .ref m1, .int 0, .int 0, .int 0, .int 0, .int (-1), .int 0, .int 0, .ref m2, .ref m3, .ref m4, .int 0, .ref m5, .ref m6, .ref m7, .int 0, .ref m8, .ref m9, .ref m10, .int 0, .int 0, .ref m11, .ref m12, .ref m13, .int 0, .int 0, .ref m14, .int 0, .ref m15, .ref m16, .ref m17, .int 0, .int 0, .ref m18, .ref m19, .ref m20, .int 0, .ref m21]))]) [0] (by decide) rfl
  have hFc := va_free (wc := [(h0, .inr (7, [.int 0, .ref m1, .int 0, .int 0, .int 0, .int 0, .int (-1), .int 0, .int 0, .ref m2, .ref m3, .ref m4, .int 0, .ref m5, .ref m6, .ref m7, .int 0, .ref m8, .ref m9, .ref m10, .int 0, .int 0, .ref m11, .ref m12, .ref m13, .int 0, .int 0, .ref m14, .int 0, .ref m15, .ref m16, .ref m17, .int 0, .int 0, .ref m18, .ref m19, .ref m20, .int 0, .ref m21]))]) hD hS hA [0] rfl
  refine va_calli (va_runV (As := [.int 0, .int 0]) (rest := []) ⟨hx, hb, hml, hown, hg⟩ (c_thrB l dC dI cI cZ cL h0 (Array.size _) [.ref m1, .int 0, .int 0, .int 0, .int 0, .int (-1), .int 0, .int 0, .ref m2, .ref m3, .ref m4, .int 0, .ref m5, .ref m6, .ref m7, .int 0, .ref m8, .ref m9, .ref m10, .int 0, .int 0, .ref m11, .ref m12, .ref m13, .int 0, .int 0, .ref m14, .int 0, .ref m15, .ref m16, .ref m17, .int 0, .int 0, .ref m18, .ref m19, .ref m20, .int 0, .ref m21]) (cwV 2 hg (gw_V k_260 k_261 k_262 k_245 g_yX7_throwing) rfl rfl rfl (by decide +kernel) ⟨(Nat.le_of_ble_eq_true rfl), (Nat.le_of_ble_eq_true rfl)⟩) ⟨hp_bl, va_recv hK hPc (ci := 7) (q0 := 0) rfl rfl, fun U hU hW => hp_ok hU hW hPc hK hDc⟩ rfl rfl hl.1 rfl (lv_room (Nat.le_of_ble_eq_true rfl)) dX7_feed_42 ⟨(Nat.le_of_ble_eq_true rfl), (Nat.le_of_ble_eq_true rfl)⟩) hS (fun q _ h => hFc q h) hFc (fun r9 u t H locs ht hvm hw hB hz1 hk1 hS => ?_)
  obtain ⟨hP1, hD1⟩ := hB
  rw [ht] at hP1
  obtain ⟨hP, hD⟩ := va_join (wr := [(m1, .inl (cI, 60, .inl zI))]) (w1 := [(h0, .inr (7, [.int 0, .ref m1, .int 0, .int 0, .int 0, .int 0, .int (-1), .int 0, .int 0, .ref m2, .ref m3, .ref m4, .int 0, .ref m5, .ref m6, .ref m7, .int 0, .ref m8, .ref m9, .ref m10, .int 0, .int 0, .ref m11, .ref m12, .ref m13, .int 0, .int 0, .ref m14, .int 0, .ref m15, .ref m16, .ref m17, .int 0, .int 0, .ref m18, .ref m19, .ref m20, .int 0, .ref m21]))]) hP hD [0] [1] rfl rfl (by decide) (by decide) hk1 hFc hP1 hD1
  have hP : va_P (dC, dI) vwCl [(m1, .inl (cI, 60, .inl zI)), (h0, .inr (7, [.int 0, .ref m1, .int 0, .int 0, .int 0, .int 0, .int (-1), .int 0, .int 0, .ref m2, .ref m3, .ref m4, .int 0, .ref m5, .ref m6, .ref m7, .int 0, .ref m8, .ref m9, .ref m10, .int 0, .int 0, .ref m11, .ref m12, .ref m13, .int 0, .int 0, .ref m14, .int 0, .ref m15, .ref m16, .ref m17, .int 0, .int 0, .ref m18, .ref m19, .ref m20, .int 0, .ref m21]))] H := hP
  have hD : va_D A [(m1, .inl (cI, 60, .inl zI)), (h0, .inr (7, [.int 0, .ref m1, .int 0, .int 0, .int 0, .int 0, .int (-1), .int 0, .int 0, .ref m2, .ref m3, .ref m4, .int 0, .ref m5, .ref m6, .ref m7, .int 0, .ref m8, .ref m9, .ref m10, .int 0, .int 0, .ref m11, .ref m12, .ref m13, .int 0, .int 0, .ref m14, .int 0, .ref m15, .ref m16, .ref m17, .int 0, .int 0, .ref m18, .ref m19, .ref m20, .int 0, .ref m21]))] := hD
  refine W.widen (k := 0) (n := 0) (Nat.le_of_ble_eq_true rfl) (Nat.le_of_ble_eq_true rfl) ?_
  obtain rfl : r9 = 0 := hw
  refine lv_if_eq (tgt := 50) hx hb dX7_feed_45 (by decide) (fun _ => ?_) (fun c9 => absurd (by decide) c9)
  refine lv_iload_n hx hb dX7_feed_50 rfl (lv_at hl 3 rfl) ?_
  refine lv_iconst (v := 1) hx hb dX7_feed_51 (by decide) ?_
  refine lv_isub hx hb dX7_feed_52 ?_
  refine lv_topi (fun z2 ez2 => ?_)
  obtain rfl : z2 = sk j := ez2.trans (sk_in j hj h1)
  refine lv_istore (lv' := [(5, .int (sk j)), (4, .int 0), (0, .ref h0), (1, .long b), (3, .int (nI j))]) hx hb dX7_feed_53 hl (by decide) rfl (fun ls hl => ?_)
  refine W.widen (k := 0) (n := 0) (Nat.le_of_ble_eq_true rfl) (Nat.le_of_ble_eq_true rfl) ?_
  refine lp_feed7 hj hx hb hg hown hK (fun f H locs ls hP hD hS hl => ?_) j 0 (Nat.zero_add j) zI _ _ ls (hP.sub [1, 0] rfl) (hD.sub [1, 0] (by decide) rfl) hS (lv_sub hl [2, 3, 4, 0] rfl)
  refine lv_aload_n hx hb dX7_feed_97 rfl (lv_at hl 0 rfl) ?_
  refine va_get (D := (dC, dI)) (ci := 7) (v := .int (nI j)) (C := RX7) (T := TX7) (N := 39) hx hb hg i_X7 hown hK hP 0 rfl rfl 2 (by decide) (hg _ k_231) (fun _ h9 => h9) rfl dX7_feed_98 ?_
  have hP9 := hP.sub (ws' := [(h0, .inr (7, [.int 0, .ref m1, .int (nI j), .int 0, .int 0, .int 0, .int (-1), .int 0, .int 0, .ref m2, .ref m3, .ref m4, .int 0, .ref m5, .ref m6, .ref m7, .int 0, .ref m8, .ref m9, .ref m10, .int 0, .int 0, .ref m11, .ref m12, .ref m13, .int 0, .int 0, .ref m14, .int 0, .ref m15, .ref m16, .ref m17, .int 0, .int 0, .ref m18, .ref m19, .ref m20, .int 0, .ref m21]))]) [0] rfl
  have hD9 := hD.sub (ws' := [(h0, .inr (7, [.int 0, .ref m1, .int (nI j), .int 0, .int 0, .int 0, .int (-1), .int 0, .int 0, .ref m2, .ref m3, .ref m4, .int 0, .ref m5, .ref m6, .ref m7, .int 0, .ref m8, .ref m9, .ref m10, .int 0, .int 0, .ref m11, .ref m12, .ref m13, .int 0, .int 0, .ref m14, .int 0, .ref m15, .ref m16, .ref m17, .int 0, .int 0, .ref m18, .ref m19, .ref m20, .int 0, .ref m21]))]) [0] (by decide) rfl
  refine W.widen (k := 0) (n := 0) (Nat.le_of_ble_eq_true rfl) (Nat.le_of_ble_eq_true rfl) ?_
  exact W.iret (v := (nI j)) hx hb hr (fun t ht hW => ⟨⟨(nI j), (), rfl, rfl, by rw [ht]; exact hP9, hD9⟩, hS.F ht⟩) hS.2.2 dX7_feed_101
end
section
/-! what a throw asks of the state, beside its words -/
def ex (A : Nat → Prop) (U : State) : Prop :=
  va_Nw (.castable "java/lang/IllegalArgumentException" "java/lang/IllegalArgumentException") U ∧ va_Nw (.castable "java/lang/IndexOutOfBoundsException" "java/lang/IndexOutOfBoundsException") U ∧ (va_Nw (.declares ⟨"java/lang/RuntimeException", "<init>", "(Ljava/lang/String;)V"⟩) U ∧ va_Nw (.declares ⟨"java/lang/Exception", "<init>", "(Ljava/lang/String;)V"⟩) U ∧ va_Nw (.declares ⟨"java/lang/Throwable", "<init>", "(Ljava/lang/String;)V"⟩) U) ∧ vx_Zq Bundle.tN "UNASSIGNED_STACK" Bundle.steD A U U.heap ∧ vx_Zq Bundle.tN "SUPPRESSED_SENTINEL" Bundle.listD A U U.heap ∧
  (∃ sa : Nat, vk_R RX6 54 "n is not 1 .. 8" sa U) ∧ (∃ sa : Nat, vk_R RX6 75 "the text is no term" sa U) ∧ (∃ sa : Nat, vk_R RX6 97 "the text is no pair of types" sa U) ∧ ∃ sa : Nat, vk_R RX6 108 "no such byte is printed" sa U
theorem ex_ok {A A' : Nat → Prop} {s U : State} {H : Heap} {locs : List Loc} (h : ex A s) (hS : va_S A s.heap H locs) (hU : U.heap = H) (hW : s.WarmedH U.vm) (hF : ∀ q, A' q → A q) : ex A' U := by
  obtain ⟨h1, h2, ⟨d1, d2, d3⟩, h3, h4, ⟨s5, h5⟩, ⟨s6, h6⟩, ⟨s7, h7⟩, s8, h8⟩ := h
  refine ⟨va_Nw.warmC hW h1, va_Nw.warmC hW h2, ⟨va_Nw.warmD hW d1, va_Nw.warmD hW d2, va_Nw.warmD hW d3⟩, ?_, ?_, ⟨s5, vk_R.warm hW h5⟩, ⟨s6, vk_R.warm hW h6⟩, ⟨s7, vk_R.warm hW h7⟩, s8, vk_R.warm hW h8⟩
  · rw [hU]; exact (vx_Zq.moved hW.alike (h3.kept hS.2.1)).narrow hF
  · rw [hU]; exact (vx_Zq.moved hW.alike (h4.kept hS.2.1)).narrow hF
def hpx (dC : Nat → ClassId) (dI : Nat → Nat → Nat) (cI cZ cL : ClassId) (sz : Nat) (ws : va_W) (U : State) : Prop :=
  U.heap.size = sz ∧ va_P (dC, dI) vwCl ws U.heap ∧ va_K (dC, dI) vwCl (t3 cI cZ cL) U ∧ va_D (fun _ => True) ws ∧ ex (va_A ws sz) U
theorem hpx_bl {dC : Nat → ClassId} {dI : Nat → Nat → Nat} {cI cZ cL : ClassId} {sz : Nat} {ws : va_W} {av : List Value} : FrameBlind (va_Pc av (hpx dC dI cI cZ cL sz ws)) := fun a U g mk q => by
  obtain ⟨q0, q1, qP, qK, qD, h1, h2, ⟨d1, d2, d3⟩, h3, h4, ⟨s5, h5⟩, ⟨s6, h6⟩, ⟨s7, h7⟩, s8, h8⟩ := q
  exact ⟨q0, q1, qP, va_K.moved (u := U) (U := U.calling g mk a) (Vm.Alike.refl U.vm) qK, qD, va_Nw.same rfl rfl h1, va_Nw.same rfl rfl h2, ⟨va_Nw.same rfl rfl d1, va_Nw.same rfl rfl d2, va_Nw.same rfl rfl d3⟩, vx_Zq.moved (u := U) (U := U.calling g mk a) (Vm.Alike.refl U.vm) h3, vx_Zq.moved (u := U) (U := U.calling g mk a) (Vm.Alike.refl U.vm) h4, ⟨s5, vk_R.same rfl h5⟩, ⟨s6, vk_R.same rfl h6⟩, ⟨s7, vk_R.same rfl h7⟩, s8, vk_R.same rfl h8⟩
theorem hpx_ok {dC : Nat → ClassId} {dI : Nat → Nat → Nat} {cI cZ cL : ClassId} {ws : va_W} {A : Nat → Prop} {av : List Value} {s U : State} {H : Heap} {locs : List Loc} (hU : U.heap = H) (hW : s.WarmedH U.vm) (hP : va_P (dC, dI) vwCl ws H) (hK : va_K (dC, dI) vwCl (t3 cI cZ cL) s) (hD : va_D A ws) (hE : ex A s) (hS : va_S A s.heap H locs) (hF : ∀ q, va_A ws H.size q → A q) : va_Pc av (hpx dC dI cI cZ cL H.size ws) av.toArray U :=
  ⟨rfl, by rw [hU], by rw [hU]; exact hP, va_K.moved hW.alike hK, hD.weaken (fun _ _ _ _ => trivial), ex_ok hE hS hU hW hF⟩
theorem at_in (L : List Cond) (h : ∀ w ∈ L.filter goodWord, w ∈ lw_tbl) : ∀ w ∈ L.filter goodWord, w ∈ gw_all := fun w hw => List.mem_filter.mpr ⟨h w hw, (List.mem_filter.mp hw).2⟩
theorem at_I : ∀ w ∈ (vx_atS RX6 56 "java/lang/IllegalArgumentException" ["java/lang/RuntimeException", "java/lang/Exception"]).filter goodWord, w ∈ gw_all := at_in _ (by decide +kernel)
theorem at_O : ∀ w ∈ (vx_atS RX6 110 "java/lang/IndexOutOfBoundsException" ["java/lang/RuntimeException", "java/lang/Exception"]).filter goodWord, w ∈ gw_all := at_in _ (by decide +kernel)
theorem no_I : ∀ w ∈ (vx_atS RX6 56 "java/lang/IllegalArgumentException" ["java/lang/RuntimeException", "java/lang/Exception"]).filter (fun w => !goodWord w), w ∈ [Cond.castable "java/lang/IllegalArgumentException" "java/lang/IllegalArgumentException", Cond.declares ⟨"java/lang/RuntimeException", "<init>", "(Ljava/lang/String;)V"⟩, Cond.declares ⟨"java/lang/Exception", "<init>", "(Ljava/lang/String;)V"⟩, Cond.declares ⟨"java/lang/Throwable", "<init>", "(Ljava/lang/String;)V"⟩] := by decide +kernel
theorem no_O : ∀ w ∈ (vx_atS RX6 110 "java/lang/IndexOutOfBoundsException" ["java/lang/RuntimeException", "java/lang/Exception"]).filter (fun w => !goodWord w), w ∈ [Cond.castable "java/lang/IndexOutOfBoundsException" "java/lang/IndexOutOfBoundsException", Cond.declares ⟨"java/lang/RuntimeException", "<init>", "(Ljava/lang/String;)V"⟩, Cond.declares ⟨"java/lang/Exception", "<init>", "(Ljava/lang/String;)V"⟩, Cond.declares ⟨"java/lang/Throwable", "<init>", "(Ljava/lang/String;)V"⟩] := by decide +kernel
theorem ot_I : ∀ w ∈ Cond.classLink RX6 52 "java/lang/IllegalArgumentException" :: Cond.initialized "java/lang/IllegalArgumentException" :: vx_atS RX6 56 "java/lang/IllegalArgumentException" ["java/lang/RuntimeException", "java/lang/Exception"], vx_ot w = true := by decide +kernel
theorem ot_O : ∀ w ∈ Cond.classLink RX6 106 "java/lang/IndexOutOfBoundsException" :: Cond.initialized "java/lang/IndexOutOfBoundsException" :: vx_atS RX6 110 "java/lang/IndexOutOfBoundsException" ["java/lang/RuntimeException", "java/lang/Exception"], vx_ot w = true := by decide +kernel
theorem fr_X {A : Nat → Prop} {s t : State} {H : Heap} {locs : List Loc} (hS : va_S A s.heap H locs) (h1 : H.size ≤ t.heap.size) (h2 : ∀ q : Nat, q < H.size → t.heap[q]? = H[q]?) : va_F A s t := ⟨Nat.le_trans hS.1 h1, fun q hq hn => (h2 q (Nat.lt_of_lt_of_le hq hS.1)).trans (hS.2.1 q hq hn)⟩
theorem nil_P {D : va_G} {cl : List vw_C} {H : Heap} : va_P D cl [] H := fun k q h => by simp at h
theorem nil_D {A : Nat → Prop} : va_D A [] := ⟨fun i j p q h => by simp at h, fun k q h => by simp at h⟩

set_option maxHeartbeats 4000000 in
set_option maxRecDepth 100000 in
/-- feed(.., n), n < 1: throws -/
theorem c_X6_feedL (l : Launch) (dC : Nat → ClassId) (dI : Nat → Nat → Nat) (cI cZ cL : ClassId) (h0 : Nat) (sz : Nat) (n0 r0 j0 p0 a1 : Nat) (b : Int64) (x : Int32) (hst : l.stackTraces = false) (hn : x < 1) : vx_Met l yX6_feed (wd yX6_feed cX6_feed 5 (some .int)) ({ frames := 6, cells := 1, slots := 6, locals := 82 }) (va_Pc [.ref h0, .long b, .int x] (hpx dC dI cI cZ cL sz [(h0, .inr (6, [.ref a1, .int 0, .int (-1), .ref n0, .ref r0, .ref j0, .ref p0]))])) (va_Qi (fun (r : Int32) (_ : Unit) => False) (fun (_ : Unit) t => va_P (dC, dI) vwCl [] t.heap ∧ va_D (va_A [(h0, .inr (6, [.ref a1, .int 0, .int (-1), .ref n0, .ref r0, .ref j0, .ref p0]))] sz) []) (va_A [(h0, .inr (6, [.ref a1, .int 0, .int (-1), .ref n0, .ref r0, .ref j0, .ref p0]))] sz)) (vx_X (fun (_ : Unit) => True) (fun E _ _ => E = "java/lang/IllegalArgumentException") (va_A [(h0, .inr (6, [.ref a1, .int 0, .int (-1), .ref n0, .ref r0, .ref j0, .ref p0]))] sz)) 1 6 (va_A [(h0, .inr (6, [.ref a1, .int 0, .int (-1), .ref n0, .ref r0, .ref j0, .ref p0]))] sz) := by
  refine vx_ofW (cc := cX6_feed) (maxL := 5) (ret := (some .int)) (by decide) rfl ?_
  intro p e s m args below meth c s₁ B hml htb hv
  obtain ⟨rfl, hsz, hP, hK, hD0, hE0⟩ := hv
  have hx := B.exec
  have hb := B.bytes
  have hr := B.returns
  have hw9 := atoms_spec (ws := (wd yX6_feed cX6_feed 5 (some .int))) B.pre
  have hg := gw_hts hw9
  have hown : s.vm.findClass RX6 = some m.cls := findClass_of_methodNamed B.named
  have hlocks := B.notSynchronized
  subst hsz
  have hD := hD0.self (sz := s.heap.size)
  have hE := hE0
  generalize hAe : va_A [(h0, .inr (6, [.ref a1, .int 0, .int (-1), .ref n0, .ref r0, .ref j0, .ref p0]))] s.heap.size = A at hD hE ⊢
  have hA : ∀ q : Nat, s.heap.size ≤ q → A q := fun q h => by rw [← hAe]; exact Or.inr h
  have hS : va_S A s.heap s.heap [] := va_S.rf
  have hl := lv_entry ([.ref h0, .long b, .int x]) (n := 5) (Nat.le_of_ble_eq_true rfl)
  rw [lg_entry_eq]
  generalize (lg_sl ([.ref h0, .long b, .int x]) ++ List.replicate (5 - (lg_sl ([.ref h0, .long b, .int x])).length) Slot.unset).toArray = ls at hl ⊢
  have hl : lv_has ls 5 [(0, .ref h0), (1, .long b), (3, .int x)] := hl
  refine lv_iload_n hx hb dX6_feed_0 rfl (lv_at hl 2 rfl) ?_
  refine lv_iconst (v := 1) hx hb dX6_feed_1 (by decide) ?_
  refine lv_icmp_lt (tgt := 11) hx hb dX6_feed_2 (by decide) (fun _ => ?_) (fun c9 => absurd hn c9)
  obtain ⟨hC1, hC2, ⟨hd1, hd2, hd3⟩, hU, hN, hT4⟩ := hE
  obtain ⟨⟨sa0, hs0⟩, ⟨sa1, hs1⟩, ⟨sa2, hs2⟩, sa3, hs3⟩ := hT4
  exact vx_throwS (own := RX6) (cls := "java/lang/IllegalArgumentException") (text := "n is not 1 .. 8") (names := ["java/lang/RuntimeException", "java/lang/Exception"]) (ik := 52) (is := 54) (ic := 56) (sa := sa0) (A := A) hx hb hst hown (by decide +kernel) (by decide +kernel) (hg _ k_274) (hg _ k_275) hs0 (vx_hat (fun w h => hg w (at_I w h)) no_I (vx_c (va_Nw.use rfl hC1) (vx_c (va_Nw.use rfl hd1) (vx_c (va_Nw.use rfl hd2) (vx_c (va_Nw.use rfl hd3) vx_n))))) ot_I hU hN hS (by rw [hml]; exact hl.1) dX6_feed_11 dX6_feed_14 dX6_feed_15 dX6_feed_17 dX6_feed_20 (fun x h => (htb x h).elim) (Nat.le_of_ble_eq_true rfl) (Nat.le_of_ble_eq_true rfl) (Nat.le_of_ble_eq_true rfl) (Nat.le_of_ble_eq_true rfl) hlocks (fun t _ h1 h2 => ⟨(), trivial, rfl, fr_X hS h1 h2⟩) hS.2.2 (Nat.le_of_ble_eq_true rfl) (Nat.le_of_ble_eq_true rfl)

set_option maxHeartbeats 4000000 in
set_option maxRecDepth 100000 in
/-- feed(.., n), n > 8: throws -/
theorem c_X6_feedH (l : Launch) (dC : Nat → ClassId) (dI : Nat → Nat → Nat) (cI cZ cL : ClassId) (h0 : Nat) (sz : Nat) (n0 r0 j0 p0 a1 : Nat) (b : Int64) (x : Int32) (hst : l.stackTraces = false) (hn : ¬ x < 1) (hm : ¬ x ≤ 8) : vx_Met l yX6_feed (wd yX6_feed cX6_feed 5 (some .int)) ({ frames := 6, cells := 1, slots := 6, locals := 82 }) (va_Pc [.ref h0, .long b, .int x] (hpx dC dI cI cZ cL sz [(h0, .inr (6, [.ref a1, .int 0, .int (-1), .ref n0, .ref r0, .ref j0, .ref p0]))])) (va_Qi (fun (r : Int32) (_ : Unit) => False) (fun (_ : Unit) t => va_P (dC, dI) vwCl [] t.heap ∧ va_D (va_A [(h0, .inr (6, [.ref a1, .int 0, .int (-1), .ref n0, .ref r0, .ref j0, .ref p0]))] sz) []) (va_A [(h0, .inr (6, [.ref a1, .int 0, .int (-1), .ref n0, .ref r0, .ref j0, .ref p0]))] sz)) (vx_X (fun (_ : Unit) => True) (fun E _ _ => E = "java/lang/IllegalArgumentException") (va_A [(h0, .inr (6, [.ref a1, .int 0, .int (-1), .ref n0, .ref r0, .ref j0, .ref p0]))] sz)) 1 6 (va_A [(h0, .inr (6, [.ref a1, .int 0, .int (-1), .ref n0, .ref r0, .ref j0, .ref p0]))] sz) := by
  refine vx_ofW (cc := cX6_feed) (maxL := 5) (ret := (some .int)) (by decide) rfl ?_
  intro p e s m args below meth c s₁ B hml htb hv
  obtain ⟨rfl, hsz, hP, hK, hD0, hE0⟩ := hv
  have hx := B.exec
  have hb := B.bytes
  have hr := B.returns
  have hw9 := atoms_spec (ws := (wd yX6_feed cX6_feed 5 (some .int))) B.pre
  have hg := gw_hts hw9
  have hown : s.vm.findClass RX6 = some m.cls := findClass_of_methodNamed B.named
  have hlocks := B.notSynchronized
  subst hsz
  have hD := hD0.self (sz := s.heap.size)
  have hE := hE0
  generalize hAe : va_A [(h0, .inr (6, [.ref a1, .int 0, .int (-1), .ref n0, .ref r0, .ref j0, .ref p0]))] s.heap.size = A at hD hE ⊢
  have hA : ∀ q : Nat, s.heap.size ≤ q → A q := fun q h => by rw [← hAe]; exact Or.inr h
  have hS : va_S A s.heap s.heap [] := va_S.rf
  have hl := lv_entry ([.ref h0, .long b, .int x]) (n := 5) (Nat.le_of_ble_eq_true rfl)
  rw [lg_entry_eq]
  generalize (lg_sl ([.ref h0, .long b, .int x]) ++ List.replicate (5 - (lg_sl ([.ref h0, .long b, .int x])).length) Slot.unset).toArray = ls at hl ⊢
  have hl : lv_has ls 5 [(0, .ref h0), (1, .long b), (3, .int x)] := hl
  refine lv_iload_n hx hb dX6_feed_0 rfl (lv_at hl 2 rfl) ?_
  refine lv_iconst (v := 1) hx hb dX6_feed_1 (by decide) ?_
  refine lv_icmp_lt (tgt := 11) hx hb dX6_feed_2 (by decide) (fun c9 => absurd c9 hn) (fun _ => ?_)
  refine lv_iload_n hx hb dX6_feed_5 rfl (lv_at hl 2 rfl) ?_
  refine lv_bipush (v := 8) hx hb dX6_feed_6 (by decide) ?_
  refine lv_icmp_le (tgt := 21) hx hb dX6_feed_8 (by decide) (fun c9 => absurd c9 hm) (fun _ => ?_)
  obtain ⟨hC1, hC2, ⟨hd1, hd2, hd3⟩, hU, hN, hT4⟩ := hE
  obtain ⟨⟨sa0, hs0⟩, ⟨sa1, hs1⟩, ⟨sa2, hs2⟩, sa3, hs3⟩ := hT4
  exact vx_throwS (own := RX6) (cls := "java/lang/IllegalArgumentException") (text := "n is not 1 .. 8") (names := ["java/lang/RuntimeException", "java/lang/Exception"]) (ik := 52) (is := 54) (ic := 56) (sa := sa0) (A := A) hx hb hst hown (by decide +kernel) (by decide +kernel) (hg _ k_274) (hg _ k_275) hs0 (vx_hat (fun w h => hg w (at_I w h)) no_I (vx_c (va_Nw.use rfl hC1) (vx_c (va_Nw.use rfl hd1) (vx_c (va_Nw.use rfl hd2) (vx_c (va_Nw.use rfl hd3) vx_n))))) ot_I hU hN hS (by rw [hml]; exact hl.1) dX6_feed_11 dX6_feed_14 dX6_feed_15 dX6_feed_17 dX6_feed_20 (fun x h => (htb x h).elim) (Nat.le_of_ble_eq_true rfl) (Nat.le_of_ble_eq_true rfl) (Nat.le_of_ble_eq_true rfl) (Nat.le_of_ble_eq_true rfl) hlocks (fun t _ h1 h2 => ⟨(), trivial, rfl, fr_X hS h1 h2⟩) hS.2.2 (Nat.le_of_ble_eq_true rfl) (Nat.le_of_ble_eq_true rfl)

/-- the class's shift: behind k bytes still to come it stands at 8 * (k - 1) -/
def sh : Nat → Int32 | 0 => -8 | k + 1 => nI (8 * k)
theorem sh_lt : ∀ k, k < 9 → ¬ sh (k + 1) < 0 := by decide
theorem sh_st : ∀ k, k < 9 → sh (k + 1) + Int32.ofInt (-8) = sh k := by decide
theorem sh_in : ∀ j, j < 9 → 0 < j → 8 * (nI j - 1) = sh j := by decide

set_option maxHeartbeats 4000000 in
set_option maxRecDepth 100000 in
theorem lp_feed6 {p : Program} {l : Launch} {e : Env} {R : Room} {s : State} {m : MethodId} {args : Array Value} {below : List Frame} {meth : Method} {c : Code} {Q : State → Prop} {cells slots : Nat} {dC : Nat → ClassId} {dI : Nat → Nat → Nat} {cI cZ cL : ClassId} {A : Nat → Prop} {h0 a1 n0 r0 j0 p0 : Nat} {b : Int64} {x : Int32} {j : Nat} (hj : j < 9) (hx : p.tables.exec = Jvm.exec) (hb : c.code = cX6_feed) (hg : ∀ w ∈ gw_all, w.before args s = true) (hown : s.vm.findClass RX6 = some m.cls) (hK : va_K (dC, dI) vwCl (t3 cI cZ cL) s)
    (kk : ∀ (f : Nat → Int32) (H : Heap) (locs : List Loc) (ls : Array Slot), va_P (dC, dI) vwCl [(h0, .inr (6, [.ref a1, .int (nI j), .int (-1), .ref n0, .ref r0, .ref j0, .ref p0])), (a1, .inl (cI, 60, .inl f))] H → va_D A [(h0, .inr (6, [.ref a1, .int (nI j), .int (-1), .ref n0, .ref r0, .ref j0, .ref p0])), (a1, .inl (cI, 60, .inl f))] → va_S A s.heap H locs → lv_has ls 5 [(0, .ref h0)] → W p l e R s m args below meth c H locs cells slots Q (F0 m 89 ls [])) :
    ∀ (k i : Nat), i + k = j → ∀ (f : Nat → Int32) (H : Heap) (locs : List Loc) (ls : Array Slot), va_P (dC, dI) vwCl [(h0, .inr (6, [.ref a1, .int (nI i), .int (-1), .ref n0, .ref r0, .ref j0, .ref p0])), (a1, .inl (cI, 60, .inl f))] H → va_D A [(h0, .inr (6, [.ref a1, .int (nI i), .int (-1), .ref n0, .ref r0, .ref j0, .ref p0])), (a1, .inl (cI, 60, .inl f))] → va_S A s.heap H locs → lv_has ls 5 [(0, .ref h0), (1, .long b), (3, .int x), (4, .int (sh k))] → W p l e R s m args below meth c H locs cells slots Q (F0 m 50 ls []) := by
  intro k
  induction k with
  | zero =>
    intro i hi f H locs ls hP hD hS hl
    obtain rfl : i = j := by omega
    refine lv_iload hx hb dX6_feed_50 (lv_at hl 3 rfl) ?_
    exact lv_if_lt (tgt := 89) hx hb dX6_feed_52 (by decide) (fun _ => kk f H locs ls hP hD hS (lv_sub hl [0] rfl)) (fun c9 => absurd (by decide) c9)
  | succ k ih =>
    intro i hi f H locs ls hP hD hS hl
    refine lv_iload hx hb dX6_feed_50 (lv_at hl 3 rfl) ?_
    refine lv_if_lt (tgt := 89) hx hb dX6_feed_52 (by decide) (fun c9 => absurd c9 (sh_lt k (by omega))) (fun _ => ?_)
    refine lv_aload_n hx hb dX6_feed_55 rfl (lv_at hl 0 rfl) ?_
    refine va_get (D := (dC, dI)) (ci := 6) (v := .ref a1) (C := RX6) (T := TX6) (N := 7) hx hb hg i_X6 hown hK hP 0 rfl rfl 0 (by decide) (hg _ k_71) (fun _ h9 => h9) rfl dX6_feed_56 ?_
    refine lv_aload_n hx hb dX6_feed_59 rfl (lv_at hl 0 rfl) ?_
    refine va_get (D := (dC, dI)) (ci := 6) (v := .int (nI i)) (C := RX6) (T := TX6) (N := 7) hx hb hg i_X6 hown hK hP 0 rfl rfl 1 (by decide) (hg _ k_72) (fun _ h9 => h9) rfl dX6_feed_60 ?_
    refine lv_lload_n hx hb dX6_feed_63 rfl (lv_at hl 1 rfl) ?_
    refine lv_iload hx hb dX6_feed_64 (lv_at hl 3 rfl) ?_
    refine lv_lushr hx hb dX6_feed_66 rfl ?_
    refine lv_topl (fun z1 ez1 => ?_)
    refine lv_ldc2 (v := 255) hx hb hown (hg _ k_276) dX6_feed_67 ?_
    refine lv_land hx hb dX6_feed_70 ?_
    refine lv_topl (fun z2 ez2 => ?_)
    refine lv_l2i hx hb dX6_feed_71 rfl ?_
    refine lv_topi (fun z3 ez3 => ?_)
    refine va_iast hx hb hK hP hD hS 1 0 rfl rfl (vp_in_nI (by omega) (by omega)) dX6_feed_72 (fun H locs hP hD hS => ?_)
    generalize upd f (Int32.toNatClampNeg (nI i)) (z3 : Int32) = f4 at hP hD
    have hP : va_P (dC, dI) vwCl [(h0, .inr (6, [.ref a1, .int (nI i), .int (-1), .ref n0, .ref r0, .ref j0, .ref p0])), (a1, .inl (cI, 60, .inl f4))] H := hP
    have hD : va_D A [(h0, .inr (6, [.ref a1, .int (nI i), .int (-1), .ref n0, .ref r0, .ref j0, .ref p0])), (a1, .inl (cI, 60, .inl f4))] := hD
    refine lv_aload_n hx hb dX6_feed_73 rfl (lv_at hl 0 rfl) ?_
    refine lv_dup hx hb dX6_feed_74 rfl ?_
    refine va_get (D := (dC, dI)) (ci := 6) (v := .int (nI i)) (C := RX6) (T := TX6) (N := 7) hx hb hg i_X6 hown hK hP 0 rfl rfl 1 (by decide) (hg _ k_72) (fun _ h9 => h9) rfl dX6_feed_75 ?_
    refine lv_iconst (v := 1) hx hb dX6_feed_78 (by decide) ?_
    refine lv_iadd hx hb dX6_feed_79 ?_
    refine lv_topi (fun z5 ez5 => ?_)
    obtain rfl : z5 = nI (i + 1) := ez5.trans (nI_1 i)
    refine va_put (D := (dC, dI)) (ci := 6) (v := .int (nI (i + 1))) (ty := .int) (C := RX6) (T := TX6) (N := 7) hx hb hg i_X6 tyX6 tyX6_ok nmX6 hown hK hP hD hS 0 rfl rfl 1 (by decide) (hg _ k_72) (fun _ h9 => h9) rfl (by decide +kernel) rfl rfl (Nat.le_of_ble_eq_true rfl) dX6_feed_80 (fun H locs hP hD hS => ?_)
    have hP : va_P (dC, dI) vwCl [(h0, .inr (6, [.ref a1, .int (nI (i + 1)), .int (-1), .ref n0, .ref r0, .ref j0, .ref p0])), (a1, .inl (cI, 60, .inl f4))] H := hP
    have hD : va_D A [(h0, .inr (6, [.ref a1, .int (nI (i + 1)), .int (-1), .ref n0, .ref r0, .ref j0, .ref p0])), (a1, .inl (cI, 60, .inl f4))] := hD
    refine lv_iinc (v := sh k) (lv' := [(4, .int (sh k)), (0, .ref h0), (1, .long b), (3, .int x)]) hx hb dX6_feed_83 hl (k := 3) rfl (sh_st k (by omega)) (by decide) rfl (fun ls hl => ?_)
    refine lv_goto (tgt := 50) hx hb dX6_feed_86 (by decide) ?_
    exact ih (i + 1) (by omega) _ H locs ls hP hD hS (lv_sub hl [1, 2, 3, 0] rfl)

set_option maxHeartbeats 4000000 in
set_option maxRecDepth 100000 in
/-- feed(.., n), 1 <= n <= 8 -/
theorem c_X6_feedG (l : Launch) (dC : Nat → ClassId) (dI : Nat → Nat → Nat) (cI cZ cL : ClassId) (h0 a1 : Nat) (sz : Nat) (n0 r0 j0 p0 : Nat) (b : Int64) (j : Nat) (hj : j < 9) (h1 : 0 < j) : Met l yX6_feed (wd yX6_feed cX6_feed 5 (some .int)) ({ frames := 0, cells := 0, slots := 0, locals := 0 }) (va_Pc [.ref h0, .long b, .int (nI j)] (hp dC dI cI cZ cL sz [(h0, .inr (6, [.ref a1, .int 0, .int (-1), .ref n0, .ref r0, .ref j0, .ref p0])), (a1, .inl (cI, 60, .inl zI))])) (va_Qi (fun (r : Int32) (_ : Unit) => r = nI j) (fun (_ : Unit) t => va_P (dC, dI) vwCl [] t.heap ∧ va_D (va_A [(h0, .inr (6, [.ref a1, .int 0, .int (-1), .ref n0, .ref r0, .ref j0, .ref p0])), (a1, .inl (cI, 60, .inl zI))] sz) []) (va_A [(h0, .inr (6, [.ref a1, .int 0, .int (-1), .ref n0, .ref r0, .ref j0, .ref p0])), (a1, .inl (cI, 60, .inl zI))] sz)) 0 0 (va_A [(h0, .inr (6, [.ref a1, .int 0, .int (-1), .ref n0, .ref r0, .ref j0, .ref p0])), (a1, .inl (cI, 60, .inl zI))] sz) := by
  refine Met.ofW (cc := cX6_feed) (maxL := 5) (ret := (some .int)) (by decide) rfl ?_
  intro p e s m args below meth c s₁ B hml hv
  obtain ⟨rfl, hsz, hP, hK, hD0⟩ := hv
  have hx := B.exec
  have hb := B.bytes
  have hr := B.returns
  have hw9 := atoms_spec (ws := (wd yX6_feed cX6_feed 5 (some .int))) B.pre
  have hg := gw_hts hw9
  have hown : s.vm.findClass RX6 = some m.cls := findClass_of_methodNamed B.named
  have hlocks := B.notSynchronized
  subst hsz
  have hD := hD0.self (sz := s.heap.size)
  generalize hAe : va_A [(h0, .inr (6, [.ref a1, .int 0, .int (-1), .ref n0, .ref r0, .ref j0, .ref p0])), (a1, .inl (cI, 60, .inl zI))] s.heap.size = A at hD ⊢
  have hA : ∀ q : Nat, s.heap.size ≤ q → A q := fun q h => by rw [← hAe]; exact Or.inr h
  have hS : va_S A s.heap s.heap [] := va_S.rf
  have hl := lv_entry ([.ref h0, .long b, .int (nI j)]) (n := 5) (Nat.le_of_ble_eq_true rfl)
  rw [lg_entry_eq]
  generalize (lg_sl ([.ref h0, .long b, .int (nI j)]) ++ List.replicate (5 - (lg_sl ([.ref h0, .long b, .int (nI j)])).length) Slot.unset).toArray = ls at hl ⊢
  have hl : lv_has ls 5 [(0, .ref h0), (1, .long b), (3, .int (nI j))] := hl
  refine lv_iload_n hx hb dX6_feed_0 rfl (lv_at hl 2 rfl) ?_
  refine lv_iconst (v := 1) hx hb dX6_feed_1 (by decide) ?_
  refine lv_icmp_lt (tgt := 11) hx hb dX6_feed_2 (by decide) (fun c9 => absurd c9 (sj_lo j hj h1)) (fun _ => ?_)
  refine lv_iload_n hx hb dX6_feed_5 rfl (lv_at hl 2 rfl) ?_
  refine lv_bipush (v := 8) hx hb dX6_feed_6 (by decide) ?_
  refine lv_icmp_le (tgt := 21) hx hb dX6_feed_8 (by decide) (fun _ => ?_) (fun c9 => absurd (sj_hi j hj) c9)
  refine lv_aload_n hx hb dX6_feed_21 rfl (lv_at hl 0 rfl) ?_
  refine va_get (D := (dC, dI)) (ci := 6) (v := .int 0) (C := RX6) (T := TX6) (N := 7) hx hb hg i_X6 hown hK hP 0 rfl rfl 1 (by decide) (hg _ k_72) (fun _ h9 => h9) rfl dX6_feed_22 ?_
  refine lv_iload_n hx hb dX6_feed_25 rfl (lv_at hl 2 rfl) ?_
  refine lv_iadd hx hb dX6_feed_26 ?_
  refine lv_topi (fun z1 ez1 => ?_)
  refine lv_bipush (v := 60) hx hb dX6_feed_27 (by decide) ?_
  refine lv_icmp_le (tgt := 42) hx hb dX6_feed_29 (by decide) (fun _ => ?_) (fun c9 => absurd (by rw [ez1]; exact sj_60 j hj) c9)
  refine lv_bipush (v := 8) hx hb dX6_feed_42 (by decide) ?_
  refine lv_iload_n hx hb dX6_feed_44 rfl (lv_at hl 2 rfl) ?_
  refine lv_iconst (v := 1) hx hb dX6_feed_45 (by decide) ?_
  refine lv_isub hx hb dX6_feed_46 ?_
  refine lv_topi (fun z2 ez2 => ?_)
  refine lv_imul hx hb dX6_feed_47 ?_
  refine lv_topi (fun z3 ez3 => ?_)
  obtain rfl : z3 = sh j := ez3.trans (by rw [ez2]; exact sh_in j hj h1)
  refine lv_istore (lv' := [(4, .int (sh j)), (0, .ref h0), (1, .long b), (3, .int (nI j))]) hx hb dX6_feed_48 hl (by decide) rfl (fun ls hl => ?_)
  refine W.widen (k := 0) (n := 0) (Nat.le_of_ble_eq_true rfl) (Nat.le_of_ble_eq_true rfl) ?_
  refine lp_feed6 hj hx hb hg hown hK (fun f H locs ls hP hD hS hl => ?_) j 0 (Nat.zero_add j) zI _ _ ls (hP.sub [0, 1] rfl) (hD.sub [0, 1] (by decide) rfl) hS (lv_sub hl [1, 2, 3, 0] rfl)
  refine lv_aload_n hx hb dX6_feed_89 rfl (lv_at hl 0 rfl) ?_
  refine va_get (D := (dC, dI)) (ci := 6) (v := .int (nI j)) (C := RX6) (T := TX6) (N := 7) hx hb hg i_X6 hown hK hP 0 rfl rfl 1 (by decide) (hg _ k_72) (fun _ h9 => h9) rfl dX6_feed_90 ?_
  have hP9 := hP.sub (ws' := []) [] rfl
  have hD9 := hD.sub (ws' := []) [] (by decide) rfl
  refine W.widen (k := 0) (n := 0) (Nat.le_of_ble_eq_true rfl) (Nat.le_of_ble_eq_true rfl) ?_
  exact W.iret (v := (nI j)) hx hb hr (fun t ht hW => ⟨⟨(nI j), (), rfl, rfl, by rw [ht]; exact hP9, hD9⟩, hS.F ht⟩) hS.2.2 dX6_feed_93

set_option maxHeartbeats 4000000 in
set_option maxRecDepth 100000 in
/-- infer() with nothing fed: throws -/
theorem c_X6_infer (l : Launch) (dC : Nat → ClassId) (dI : Nat → Nat → Nat) (cI cZ cL : ClassId) (h0 a1 n0 b1 b2 b3 b4 b5 r0 a2 j0 x0 p0 : Nat) (sz : Nat) (a3 j2 j3 j4 j5 c1 c2 p1 p2 : Nat) (hst : l.stackTraces = false) : vx_Met l yX6_infer (wd yX6_infer cX6_infer 3 (some .boolean)) ({ frames := 6, cells := 1, slots := 6, locals := 87 }) (va_Pc [.ref h0] (hpx dC dI cI cZ cL sz [(h0, .inr (6, [.ref a1, .int 0, .int (-1), .ref n0, .ref r0, .ref j0, .ref p0])), (a1, .inl (cI, 60, .inl zI)), (n0, .inr (2, [.ref b1, .ref b2, .ref b3, .ref b4, .ref b5, .int 0])), (b1, .inl (cI, 4096, .inl zI)), (b2, .inl (cI, 4096, .inl zI)), (b3, .inl (cI, 4096, .inl zI)), (b4, .inl (cI, 4096, .inl zI)), (b5, .inl (cZ, 4096, .inl zI)), (r0, .inr (4, [.ref n0, .ref a1, .ref a2, .ref a3, .int 0, .int 0, .int 0, .int 0, .int (-1)])), (a2, .inl (cI, 26, .inl zI)), (j0, .inr (1, [.ref n0, .ref x0, .ref j2, .ref j3, .ref j4, .ref j5, .int 0, .int 0, .int (-1), .int 0, .int 0])), (x0, .inr (0, [.ref n0, .ref c1, .ref c2, .int 0])), (p0, .inr (3, [.ref n0, .ref p1, .ref p2, .int 0, .int (-1), .int 0]))])) (va_Qi (fun (r : Int32) (_ : Unit) => False) (fun (_ : Unit) t => va_P (dC, dI) vwCl [] t.heap ∧ va_D (va_A [(h0, .inr (6, [.ref a1, .int 0, .int (-1), .ref n0, .ref r0, .ref j0, .ref p0])), (a1, .inl (cI, 60, .inl zI)), (n0, .inr (2, [.ref b1, .ref b2, .ref b3, .ref b4, .ref b5, .int 0])), (b1, .inl (cI, 4096, .inl zI)), (b2, .inl (cI, 4096, .inl zI)), (b3, .inl (cI, 4096, .inl zI)), (b4, .inl (cI, 4096, .inl zI)), (b5, .inl (cZ, 4096, .inl zI)), (r0, .inr (4, [.ref n0, .ref a1, .ref a2, .ref a3, .int 0, .int 0, .int 0, .int 0, .int (-1)])), (a2, .inl (cI, 26, .inl zI)), (j0, .inr (1, [.ref n0, .ref x0, .ref j2, .ref j3, .ref j4, .ref j5, .int 0, .int 0, .int (-1), .int 0, .int 0])), (x0, .inr (0, [.ref n0, .ref c1, .ref c2, .int 0])), (p0, .inr (3, [.ref n0, .ref p1, .ref p2, .int 0, .int (-1), .int 0]))] sz) []) (va_A [(h0, .inr (6, [.ref a1, .int 0, .int (-1), .ref n0, .ref r0, .ref j0, .ref p0])), (a1, .inl (cI, 60, .inl zI)), (n0, .inr (2, [.ref b1, .ref b2, .ref b3, .ref b4, .ref b5, .int 0])), (b1, .inl (cI, 4096, .inl zI)), (b2, .inl (cI, 4096, .inl zI)), (b3, .inl (cI, 4096, .inl zI)), (b4, .inl (cI, 4096, .inl zI)), (b5, .inl (cZ, 4096, .inl zI)), (r0, .inr (4, [.ref n0, .ref a1, .ref a2, .ref a3, .int 0, .int 0, .int 0, .int 0, .int (-1)])), (a2, .inl (cI, 26, .inl zI)), (j0, .inr (1, [.ref n0, .ref x0, .ref j2, .ref j3, .ref j4, .ref j5, .int 0, .int 0, .int (-1), .int 0, .int 0])), (x0, .inr (0, [.ref n0, .ref c1, .ref c2, .int 0])), (p0, .inr (3, [.ref n0, .ref p1, .ref p2, .int 0, .int (-1), .int 0]))] sz)) (vx_X (fun (_ : Unit) => True) (fun E _ _ => E = "java/lang/IllegalArgumentException") (va_A [(h0, .inr (6, [.ref a1, .int 0, .int (-1), .ref n0, .ref r0, .ref j0, .ref p0])), (a1, .inl (cI, 60, .inl zI)), (n0, .inr (2, [.ref b1, .ref b2, .ref b3, .ref b4, .ref b5, .int 0])), (b1, .inl (cI, 4096, .inl zI)), (b2, .inl (cI, 4096, .inl zI)), (b3, .inl (cI, 4096, .inl zI)), (b4, .inl (cI, 4096, .inl zI)), (b5, .inl (cZ, 4096, .inl zI)), (r0, .inr (4, [.ref n0, .ref a1, .ref a2, .ref a3, .int 0, .int 0, .int 0, .int 0, .int (-1)])), (a2, .inl (cI, 26, .inl zI)), (j0, .inr (1, [.ref n0, .ref x0, .ref j2, .ref j3, .ref j4, .ref j5, .int 0, .int 0, .int (-1), .int 0, .int 0])), (x0, .inr (0, [.ref n0, .ref c1, .ref c2, .int 0])), (p0, .inr (3, [.ref n0, .ref p1, .ref p2, .int 0, .int (-1), .int 0]))] sz)) 1 6 (va_A [(h0, .inr (6, [.ref a1, .int 0, .int (-1), .ref n0, .ref r0, .ref j0, .ref p0])), (a1, .inl (cI, 60, .inl zI)), (n0, .inr (2, [.ref b1, .ref b2, .ref b3, .ref b4, .ref b5, .int 0])), (b1, .inl (cI, 4096, .inl zI)), (b2, .inl (cI, 4096, .inl zI)), (b3, .inl (cI, 4096, .inl zI)), (b4, .inl (cI, 4096, .inl zI)), (b5, .inl (cZ, 4096, .inl zI)), (r0, .inr (4, [.ref n0, .ref a1, .ref a2, .ref a3, .int 0, .int 0, .int 0, .int 0, .int (-1)])), (a2, .inl (cI, 26, .inl zI)), (j0, .inr (1, [.ref n0, .ref x0, .ref j2, .ref j3, .ref j4, .ref j5, .int 0, .int 0, .int (-1), .int 0, .int 0])), (x0, .inr (0, [.ref n0, .ref c1, .ref c2, .int 0])), (p0, .inr (3, [.ref n0, .ref p1, .ref p2, .int 0, .int (-1), .int 0]))] sz) := by
  refine vx_ofW (cc := cX6_infer) (maxL := 3) (ret := (some .boolean)) (by decide) rfl ?_
  intro p e s m args below meth c s₁ B hml htb hv
  obtain ⟨rfl, hsz, hP, hK, hD0, hE0⟩ := hv
  have hx := B.exec
  have hb := B.bytes
  have hr := B.returns
  have hw9 := atoms_spec (ws := (wd yX6_infer cX6_infer 3 (some .boolean))) B.pre
  have hg := gw_hts hw9
  have hown : s.vm.findClass RX6 = some m.cls := findClass_of_methodNamed B.named
  have hlocks := B.notSynchronized
  subst hsz
  have hD := hD0.self (sz := s.heap.size)
  have hE := hE0
  generalize hAe : va_A [(h0, .inr (6, [.ref a1, .int 0, .int (-1), .ref n0, .ref r0, .ref j0, .ref p0])), (a1, .inl (cI, 60, .inl zI)), (n0, .inr (2, [.ref b1, .ref b2, .ref b3, .ref b4, .ref b5, .int 0])), (b1, .inl (cI, 4096, .inl zI)), (b2, .inl (cI, 4096, .inl zI)), (b3, .inl (cI, 4096, .inl zI)), (b4, .inl (cI, 4096, .inl zI)), (b5, .inl (cZ, 4096, .inl zI)), (r0, .inr (4, [.ref n0, .ref a1, .ref a2, .ref a3, .int 0, .int 0, .int 0, .int 0, .int (-1)])), (a2, .inl (cI, 26, .inl zI)), (j0, .inr (1, [.ref n0, .ref x0, .ref j2, .ref j3, .ref j4, .ref j5, .int 0, .int 0, .int (-1), .int 0, .int 0])), (x0, .inr (0, [.ref n0, .ref c1, .ref c2, .int 0])), (p0, .inr (3, [.ref n0, .ref p1, .ref p2, .int 0, .int (-1), .int 0]))] s.heap.size = A at hD hE ⊢
  have hA : ∀ q : Nat, s.heap.size ≤ q → A q := fun q h => by rw [← hAe]; exact Or.inr h
  have hS : va_S A s.heap s.heap [] := va_S.rf
  have hl := lv_entry ([.ref h0]) (n := 3) (Nat.le_of_ble_eq_true rfl)
  rw [lg_entry_eq]
  generalize (lg_sl ([.ref h0]) ++ List.replicate (3 - (lg_sl ([.ref h0])).length) Slot.unset).toArray = ls at hl ⊢
  have hl : lv_has ls 3 [(0, .ref h0)] := hl
  refine lv_aload_n hx hb dX6_infer_0 rfl (lv_at hl 0 rfl) ?_
  have hPc := hP.sub (ws' := [(h0, .inr (6, [.ref a1, .int 0, .int (-1), .ref n0, .ref r0, .ref j0, .ref p0])), (a1, .inl (cI, 60, .inl zI)), (n0, .inr (2, [.ref b1, .ref b2, .ref b3, .ref b4, .ref b5, .int 0])), (b1, .inl (cI, 4096, .inl zI)), (b2, .inl (cI, 4096, .inl zI)), (b3, .inl (cI, 4096, .inl zI)), (b4, .inl (cI, 4096, .inl zI)), (b5, .inl (cZ, 4096, .inl zI)), (r0, .inr (4, [.ref n0, .ref a1, .ref a2, .ref a3, .int 0, .int 0, .int 0, .int 0, .int (-1)])), (a2, .inl (cI, 26, .inl zI)), (j0, .inr (1, [.ref n0, .ref x0, .ref j2, .ref j3, .ref j4, .ref j5, .int 0, .int 0, .int (-1), .int 0, .int 0])), (x0, .inr (0, [.ref n0, .ref c1, .ref c2, .int 0])), (p0, .inr (3, [.ref n0, .ref p1, .ref p2, .int 0, .int (-1), .int 0]))]) [0, 1, 2, 3, 4, 5, 6, 7, 8, 9, 10, 11, 12] rfl
  have hDc := hD.sub (ws' := [(h0, .inr (6, [.ref a1, .int 0, .int (-1), .ref n0, .ref r0, .ref j0, .ref p0])), (a1, .inl (cI, 60, .inl zI)), (n0, .inr (2, [.ref b1, .ref b2, .ref b3, .ref b4, .ref b5, .int 0])), (b1, .inl (cI, 4096, .inl zI)), (b2, .inl (cI, 4096, .inl zI)), (b3, .inl (cI, 4096, .inl zI)), (b4, .inl (cI, 4096, .inl zI)), (b5, .inl (cZ, 4096, .inl zI)), (r0, .inr (4, [.ref n0, .ref a1, .ref a2, .ref a3, .int 0, .int 0, .int 0, .int 0, .int (-1)])), (a2, .inl (cI, 26, .inl zI)), (j0, .inr (1, [.ref n0, .ref x0, .ref j2, .ref j3, .ref j4, .ref j5, .int 0, .int 0, .int (-1), .int 0, .int 0])), (x0, .inr (0, [.ref n0, .ref c1, .ref c2, .int 0])), (p0, .inr (3, [.ref n0, .ref p1, .ref p2, .int 0, .int (-1), .int 0]))]) [0, 1, 2, 3, 4, 5, 6, 7, 8, 9, 10, 11, 12] (by decide) rfl
  have hFc := va_free (wc := [(h0, .inr (6, [.ref a1, .int 0, .int (-1), .ref n0, .ref r0, .ref j0, .ref p0])), (a1, .inl (cI, 60, .inl zI)), (n0, .inr (2, [.ref b1, .ref b2, .ref b3, .ref b4, .ref b5, .int 0])), (b1, .inl (cI, 4096, .inl zI)), (b2, .inl (cI, 4096, .inl zI)), (b3, .inl (cI, 4096, .inl zI)), (b4, .inl (cI, 4096, .inl zI)), (b5, .inl (cZ, 4096, .inl zI)), (r0, .inr (4, [.ref n0, .ref a1, .ref a2, .ref a3, .int 0, .int 0, .int 0, .int 0, .int (-1)])), (a2, .inl (cI, 26, .inl zI)), (j0, .inr (1, [.ref n0, .ref x0, .ref j2, .ref j3, .ref j4, .ref j5, .int 0, .int 0, .int (-1), .int 0, .int 0])), (x0, .inr (0, [.ref n0, .ref c1, .ref c2, .int 0])), (p0, .inr (3, [.ref n0, .ref p1, .ref p2, .int 0, .int (-1), .int 0]))]) hD hS hA [0, 1, 2, 3, 4, 5, 6, 7, 8, 9, 10, 11, 12] rfl
  refine va_callv (va_runV (As := []) (rest := []) ⟨hx, hb, hml, hown, hg⟩ (c_X6_startText l dC dI cI cZ cL h0 a1 n0 b1 b2 b3 b4 b5 r0 a2 j0 x0 p0 (Array.size _) a3 j2 j3 j4 j5 c1 c2 p1 p2) (cwV 0 hg (gw_V k_277 k_278 k_279 k_280 g_yX6_startText) rfl rfl rfl (by decide +kernel) ⟨(Nat.le_of_ble_eq_true rfl), (Nat.le_of_ble_eq_true rfl)⟩) ⟨hp_bl, va_recv hK hPc (ci := 6) (q0 := 0) rfl rfl, fun U hU hW => hp_ok hU hW hPc hK hDc⟩ rfl rfl hl.1 rfl (lv_room (Nat.le_of_ble_eq_true rfl)) dX6_infer_1 ⟨(Nat.le_of_ble_eq_true rfl), (Nat.le_of_ble_eq_true rfl)⟩) hS (fun q _ h => hFc q h) hFc (fun u t H locs ht hvm hw hB hz1 hk1 hS => ?_)
  obtain ⟨hP1, hD1⟩ := hB
  rw [ht] at hP1
  obtain ⟨hP, hD⟩ := va_join (wr := []) (w1 := [(h0, .inr (6, [.ref a1, .int 0, .int (-1), .ref n0, .ref r0, .ref j0, .ref p0])), (r0, .inr (4, [.ref n0, .ref a1, .ref a2, .ref a3, .int 0, .int 0, .int 0, .int 0, .int (-1)]))]) hP hD [0, 1, 2, 3, 4, 5, 6, 7, 8, 9, 10, 11, 12] [] rfl rfl (by decide) (by decide) hk1 hFc hP1 hD1
  have hP : va_P (dC, dI) vwCl [(h0, .inr (6, [.ref a1, .int 0, .int (-1), .ref n0, .ref r0, .ref j0, .ref p0])), (r0, .inr (4, [.ref n0, .ref a1, .ref a2, .ref a3, .int 0, .int 0, .int 0, .int 0, .int (-1)]))] H := hP
  have hD : va_D A [(h0, .inr (6, [.ref a1, .int 0, .int (-1), .ref n0, .ref r0, .ref j0, .ref p0])), (r0, .inr (4, [.ref n0, .ref a1, .ref a2, .ref a3, .int 0, .int 0, .int 0, .int 0, .int (-1)]))] := hD
  refine W.widen (k := 0) (n := 0) (Nat.le_of_ble_eq_true rfl) (Nat.le_of_ble_eq_true rfl) ?_
  refine lv_aload_n hx hb dX6_infer_4 rfl (lv_at hl 0 rfl) ?_
  refine va_get (D := (dC, dI)) (ci := 6) (v := .ref r0) (C := RX6) (T := TX6) (N := 7) hx hb hg i_X6 hown hK hP 0 rfl rfl 4 (by decide) (hg _ k_84) (fun _ h9 => h9) rfl dX6_infer_5 ?_
  have hPc := hP.sub (ws' := [(r0, .inr (4, [.ref n0, .ref a1, .ref a2, .ref a3, .int 0, .int 0, .int 0, .int 0, .int (-1)]))]) [1] rfl
  have hDc := hD.sub (ws' := [(r0, .inr (4, [.ref n0, .ref a1, .ref a2, .ref a3, .int 0, .int 0, .int 0, .int 0, .int (-1)]))]) [1] (by decide) rfl
  have hFc := va_free (wc := [(r0, .inr (4, [.ref n0, .ref a1, .ref a2, .ref a3, .int 0, .int 0, .int 0, .int 0, .int (-1)]))]) hD hS hA [1] rfl
  refine va_calli (va_runV (As := []) (rest := []) ⟨hx, hb, hml, hown, hg⟩ (c_X4_wholeTerm l dC dI cI cZ cL r0 (Array.size _) n0 a1 a2 a3) (cwV 0 hg (gw_V k_281 k_282 k_283 k_81 g_yX4_wholeTerm) rfl rfl rfl (by decide +kernel) ⟨(Nat.le_of_ble_eq_true rfl), (Nat.le_of_ble_eq_true rfl)⟩) ⟨hp_bl, va_recv hK hPc (ci := 4) (q0 := 0) rfl rfl, fun U hU hW => hp_ok hU hW hPc hK hDc⟩ rfl rfl hl.1 rfl (lv_room (Nat.le_of_ble_eq_true rfl)) dX6_infer_8 ⟨(Nat.le_of_ble_eq_true rfl), (Nat.le_of_ble_eq_true rfl)⟩) hS (fun q _ h => hFc q h) hFc (fun r9 u t H locs ht hvm hw hB hz1 hk1 hS => ?_)
  obtain ⟨hP1, hD1⟩ := hB
  rw [ht] at hP1
  obtain ⟨hP, hD⟩ := va_join (wr := [(h0, .inr (6, [.ref a1, .int 0, .int (-1), .ref n0, .ref r0, .ref j0, .ref p0]))]) (w1 := [(r0, .inr (4, [.ref n0, .ref a1, .ref a2, .ref a3, .int 0, .int 0, .int 0, .int 0, .int 0]))]) hP hD [1] [0] rfl rfl (by decide) (by decide) hk1 hFc hP1 hD1
  have hP : va_P (dC, dI) vwCl [(h0, .inr (6, [.ref a1, .int 0, .int (-1), .ref n0, .ref r0, .ref j0, .ref p0])), (r0, .inr (4, [.ref n0, .ref a1, .ref a2, .ref a3, .int 0, .int 0, .int 0, .int 0, .int 0]))] H := hP
  have hD : va_D A [(h0, .inr (6, [.ref a1, .int 0, .int (-1), .ref n0, .ref r0, .ref j0, .ref p0])), (r0, .inr (4, [.ref n0, .ref a1, .ref a2, .ref a3, .int 0, .int 0, .int 0, .int 0, .int 0]))] := hD
  refine W.widen (k := 0) (n := 0) (Nat.le_of_ble_eq_true rfl) (Nat.le_of_ble_eq_true rfl) ?_
  obtain rfl : r9 = (-1) := hw
  refine lv_istore_n (lv' := [(1, .int (-1)), (0, .ref h0)]) hx hb dX6_infer_11 rfl hl (by decide) rfl (fun ls hl => ?_)
  refine lv_aload_n hx hb dX6_infer_12 rfl (lv_at hl 1 rfl) ?_
  refine lv_aload_n hx hb dX6_infer_13 rfl (lv_at hl 1 rfl) ?_
  refine va_get (D := (dC, dI)) (ci := 6) (v := .ref r0) (C := RX6) (T := TX6) (N := 7) hx hb hg i_X6 hown hK hP 0 rfl rfl 4 (by decide) (hg _ k_84) (fun _ h9 => h9) rfl dX6_infer_14 ?_
  have hPc := hP.sub (ws' := [(r0, .inr (4, [.ref n0, .ref a1, .ref a2, .ref a3, .int 0, .int 0, .int 0, .int 0, .int 0]))]) [1] rfl
  have hDc := hD.sub (ws' := [(r0, .inr (4, [.ref n0, .ref a1, .ref a2, .ref a3, .int 0, .int 0, .int 0, .int 0, .int 0]))]) [1] (by decide) rfl
  have hFc := va_free (wc := [(r0, .inr (4, [.ref n0, .ref a1, .ref a2, .ref a3, .int 0, .int 0, .int 0, .int 0, .int 0]))]) hD hS hA [1] rfl
  refine va_calli (va_runV (As := []) (rest := [.ref h0]) ⟨hx, hb, hml, hown, hg⟩ (c_X4_wrongAt l dC dI cI cZ cL r0 (Array.size _) n0 a1 a2 a3) (cwV 0 hg (gw_V k_284 k_285 k_286 k_81 g_yX4_wrongAt) rfl rfl rfl (by decide +kernel) ⟨(Nat.le_of_ble_eq_true rfl), (Nat.le_of_ble_eq_true rfl)⟩) ⟨hp_bl, va_recv hK hPc (ci := 4) (q0 := 0) rfl rfl, fun U hU hW => hp_ok hU hW hPc hK hDc⟩ rfl rfl hl.1 rfl (lv_room (Nat.le_of_ble_eq_true rfl)) dX6_infer_17 ⟨(Nat.le_of_ble_eq_true rfl), (Nat.le_of_ble_eq_true rfl)⟩) hS (fun q _ h => hFc q h) hFc (fun r9 u t H locs ht hvm hw hB hz1 hk1 hS => ?_)
  obtain ⟨hP1, hD1⟩ := hB
  rw [ht] at hP1
  obtain ⟨hP, hD⟩ := va_join (wr := [(h0, .inr (6, [.ref a1, .int 0, .int (-1), .ref n0, .ref r0, .ref j0, .ref p0]))]) (w1 := [(r0, .inr (4, [.ref n0, .ref a1, .ref a2, .ref a3, .int 0, .int 0, .int 0, .int 0, .int 0]))]) hP hD [1] [0] rfl rfl (by decide) (by decide) hk1 hFc hP1 hD1
  have hP : va_P (dC, dI) vwCl [(h0, .inr (6, [.ref a1, .int 0, .int (-1), .ref n0, .ref r0, .ref j0, .ref p0])), (r0, .inr (4, [.ref n0, .ref a1, .ref a2, .ref a3, .int 0, .int 0, .int 0, .int 0, .int 0]))] H := hP
  have hD : va_D A [(h0, .inr (6, [.ref a1, .int 0, .int (-1), .ref n0, .ref r0, .ref j0, .ref p0])), (r0, .inr (4, [.ref n0, .ref a1, .ref a2, .ref a3, .int 0, .int 0, .int 0, .int 0, .int 0]))] := hD
  refine W.widen (k := 0) (n := 0) (Nat.le_of_ble_eq_true rfl) (Nat.le_of_ble_eq_true rfl) ?_
  obtain rfl : r9 = 0 := hw
  refine va_put (D := (dC, dI)) (ci := 6) (v := .int 0) (ty := .int) (C := RX6) (T := TX6) (N := 7) hx hb hg i_X6 tyX6 tyX6_ok nmX6 hown hK hP hD hS 0 rfl rfl 2 (by decide) (hg _ k_73) (fun _ h9 => h9) rfl (by decide +kernel) rfl rfl (Nat.le_of_ble_eq_true rfl) dX6_infer_20 (fun H locs hP hD hS => ?_)
  have hP : va_P (dC, dI) vwCl [(h0, .inr (6, [.ref a1, .int 0, .int 0, .ref n0, .ref r0, .ref j0, .ref p0])), (r0, .inr (4, [.ref n0, .ref a1, .ref a2, .ref a3, .int 0, .int 0, .int 0, .int 0, .int 0]))] H := hP
  have hD : va_D A [(h0, .inr (6, [.ref a1, .int 0, .int 0, .ref n0, .ref r0, .ref j0, .ref p0])), (r0, .inr (4, [.ref n0, .ref a1, .ref a2, .ref a3, .int 0, .int 0, .int 0, .int 0, .int 0]))] := hD
  refine lv_aload_n hx hb dX6_infer_23 rfl (lv_at hl 1 rfl) ?_
  refine va_get (D := (dC, dI)) (ci := 6) (v := .int 0) (C := RX6) (T := TX6) (N := 7) hx hb hg i_X6 hown hK hP 0 rfl rfl 2 (by decide) (hg _ k_73) (fun _ h9 => h9) rfl dX6_infer_24 ?_
  refine lv_iconst (v := (-1)) hx hb dX6_infer_27 (by decide) ?_
  refine lv_icmp_eq (tgt := 41) hx hb dX6_infer_28 (by decide) (fun c9 => absurd c9 (by decide)) (fun _ => ?_)
  obtain ⟨hC1, hC2, ⟨hd1, hd2, hd3⟩, hU, hN, hT4⟩ := hE
  obtain ⟨⟨sa0, hs0⟩, ⟨sa1, hs1⟩, ⟨sa2, hs2⟩, sa3, hs3⟩ := hT4
  exact vx_throwS (own := RX6) (cls := "java/lang/IllegalArgumentException") (text := "the text is no term") (names := ["java/lang/RuntimeException", "java/lang/Exception"]) (ik := 52) (is := 75) (ic := 56) (sa := sa1) (A := A) hx hb hst hown (by decide +kernel) (by decide +kernel) (hg _ k_274) (hg _ k_275) hs1 (vx_hat (fun w h => hg w (at_I w h)) no_I (vx_c (va_Nw.use rfl hC1) (vx_c (va_Nw.use rfl hd1) (vx_c (va_Nw.use rfl hd2) (vx_c (va_Nw.use rfl hd3) vx_n))))) ot_I hU hN hS (by rw [hml]; exact hl.1) dX6_infer_31 dX6_infer_34 dX6_infer_35 dX6_infer_37 dX6_infer_40 (fun x h => (htb x h).elim) (Nat.le_of_ble_eq_true rfl) (Nat.le_of_ble_eq_true rfl) (Nat.le_of_ble_eq_true rfl) (Nat.le_of_ble_eq_true rfl) hlocks (fun t _ h1 h2 => ⟨(), trivial, rfl, fr_X hS h1 h2⟩) hS.2.2 (Nat.le_of_ble_eq_true rfl) (Nat.le_of_ble_eq_true rfl)

set_option maxHeartbeats 4000000 in
set_option maxRecDepth 100000 in
/-- below() with nothing fed: throws -/
theorem c_X6_below (l : Launch) (dC : Nat → ClassId) (dI : Nat → Nat → Nat) (cI cZ cL : ClassId) (h0 a1 n0 b1 b2 b3 b4 b5 r0 a2 j0 x0 p0 : Nat) (sz : Nat) (a3 j2 j3 j4 j5 c1 c2 p1 p2 : Nat) (hst : l.stackTraces = false) : vx_Met l yX6_below (wd yX6_below cX6_below 4 (some .boolean)) ({ frames := 6, cells := 1, slots := 6, locals := 85 }) (va_Pc [.ref h0] (hpx dC dI cI cZ cL sz [(h0, .inr (6, [.ref a1, .int 0, .int (-1), .ref n0, .ref r0, .ref j0, .ref p0])), (a1, .inl (cI, 60, .inl zI)), (n0, .inr (2, [.ref b1, .ref b2, .ref b3, .ref b4, .ref b5, .int 0])), (b1, .inl (cI, 4096, .inl zI)), (b2, .inl (cI, 4096, .inl zI)), (b3, .inl (cI, 4096, .inl zI)), (b4, .inl (cI, 4096, .inl zI)), (b5, .inl (cZ, 4096, .inl zI)), (r0, .inr (4, [.ref n0, .ref a1, .ref a2, .ref a3, .int 0, .int 0, .int 0, .int 0, .int (-1)])), (a2, .inl (cI, 26, .inl zI)), (j0, .inr (1, [.ref n0, .ref x0, .ref j2, .ref j3, .ref j4, .ref j5, .int 0, .int 0, .int (-1), .int 0, .int 0])), (x0, .inr (0, [.ref n0, .ref c1, .ref c2, .int 0])), (p0, .inr (3, [.ref n0, .ref p1, .ref p2, .int 0, .int (-1), .int 0]))])) (va_Qi (fun (r : Int32) (_ : Unit) => False) (fun (_ : Unit) t => va_P (dC, dI) vwCl [] t.heap ∧ va_D (va_A [(h0, .inr (6, [.ref a1, .int 0, .int (-1), .ref n0, .ref r0, .ref j0, .ref p0])), (a1, .inl (cI, 60, .inl zI)), (n0, .inr (2, [.ref b1, .ref b2, .ref b3, .ref b4, .ref b5, .int 0])), (b1, .inl (cI, 4096, .inl zI)), (b2, .inl (cI, 4096, .inl zI)), (b3, .inl (cI, 4096, .inl zI)), (b4, .inl (cI, 4096, .inl zI)), (b5, .inl (cZ, 4096, .inl zI)), (r0, .inr (4, [.ref n0, .ref a1, .ref a2, .ref a3, .int 0, .int 0, .int 0, .int 0, .int (-1)])), (a2, .inl (cI, 26, .inl zI)), (j0, .inr (1, [.ref n0, .ref x0, .ref j2, .ref j3, .ref j4, .ref j5, .int 0, .int 0, .int (-1), .int 0, .int 0])), (x0, .inr (0, [.ref n0, .ref c1, .ref c2, .int 0])), (p0, .inr (3, [.ref n0, .ref p1, .ref p2, .int 0, .int (-1), .int 0]))] sz) []) (va_A [(h0, .inr (6, [.ref a1, .int 0, .int (-1), .ref n0, .ref r0, .ref j0, .ref p0])), (a1, .inl (cI, 60, .inl zI)), (n0, .inr (2, [.ref b1, .ref b2, .ref b3, .ref b4, .ref b5, .int 0])), (b1, .inl (cI, 4096, .inl zI)), (b2, .inl (cI, 4096, .inl zI)), (b3, .inl (cI, 4096, .inl zI)), (b4, .inl (cI, 4096, .inl zI)), (b5, .inl (cZ, 4096, .inl zI)), (r0, .inr (4, [.ref n0, .ref a1, .ref a2, .ref a3, .int 0, .int 0, .int 0, .int 0, .int (-1)])), (a2, .inl (cI, 26, .inl zI)), (j0, .inr (1, [.ref n0, .ref x0, .ref j2, .ref j3, .ref j4, .ref j5, .int 0, .int 0, .int (-1), .int 0, .int 0])), (x0, .inr (0, [.ref n0, .ref c1, .ref c2, .int 0])), (p0, .inr (3, [.ref n0, .ref p1, .ref p2, .int 0, .int (-1), .int 0]))] sz)) (vx_X (fun (_ : Unit) => True) (fun E _ _ => E = "java/lang/IllegalArgumentException") (va_A [(h0, .inr (6, [.ref a1, .int 0, .int (-1), .ref n0, .ref r0, .ref j0, .ref p0])), (a1, .inl (cI, 60, .inl zI)), (n0, .inr (2, [.ref b1, .ref b2, .ref b3, .ref b4, .ref b5, .int 0])), (b1, .inl (cI, 4096, .inl zI)), (b2, .inl (cI, 4096, .inl zI)), (b3, .inl (cI, 4096, .inl zI)), (b4, .inl (cI, 4096, .inl zI)), (b5, .inl (cZ, 4096, .inl zI)), (r0, .inr (4, [.ref n0, .ref a1, .ref a2, .ref a3, .int 0, .int 0, .int 0, .int 0, .int (-1)])), (a2, .inl (cI, 26, .inl zI)), (j0, .inr (1, [.ref n0, .ref x0, .ref j2, .ref j3, .ref j4, .ref j5, .int 0, .int 0, .int (-1), .int 0, .int 0])), (x0, .inr (0, [.ref n0, .ref c1, .ref c2, .int 0])), (p0, .inr (3, [.ref n0, .ref p1, .ref p2, .int 0, .int (-1), .int 0]))] sz)) 1 6 (va_A [(h0, .inr (6, [.ref a1, .int 0, .int (-1), .ref n0, .ref r0, .ref j0, .ref p0])), (a1, .inl (cI, 60, .inl zI)), (n0, .inr (2, [.ref b1, .ref b2, .ref b3, .ref b4, .ref b5, .int 0])), (b1, .inl (cI, 4096, .inl zI)), (b2, .inl (cI, 4096, .inl zI)), (b3, .inl (cI, 4096, .inl zI)), (b4, .inl (cI, 4096, .inl zI)), (b5, .inl (cZ, 4096, .inl zI)), (r0, .inr (4, [.ref n0, .ref a1, .ref a2, .ref a3, .int 0, .int 0, .int 0, .int 0, .int (-1)])), (a2, .inl (cI, 26, .inl zI)), (j0, .inr (1, [.ref n0, .ref x0, .ref j2, .ref j3, .ref j4, .ref j5, .int 0, .int 0, .int (-1), .int 0, .int 0])), (x0, .inr (0, [.ref n0, .ref c1, .ref c2, .int 0])), (p0, .inr (3, [.ref n0, .ref p1, .ref p2, .int 0, .int (-1), .int 0]))] sz) := by
  refine vx_ofW (cc := cX6_below) (maxL := 4) (ret := (some .boolean)) (by decide) rfl ?_
  intro p e s m args below meth c s₁ B hml htb hv
  obtain ⟨rfl, hsz, hP, hK, hD0, hE0⟩ := hv
  have hx := B.exec
  have hb := B.bytes
  have hr := B.returns
  have hw9 := atoms_spec (ws := (wd yX6_below cX6_below 4 (some .boolean))) B.pre
  have hg := gw_hts hw9
  have hown : s.vm.findClass RX6 = some m.cls := findClass_of_methodNamed B.named
  have hlocks := B.notSynchronized
  subst hsz
  have hD := hD0.self (sz := s.heap.size)
  have hE := hE0
  generalize hAe : va_A [(h0, .inr (6, [.ref a1, .int 0, .int (-1), .ref n0, .ref r0, .ref j0, .ref p0])), (a1, .inl (cI, 60, .inl zI)), (n0, .inr (2, [.ref b1, .ref b2, .ref b3, .ref b4, .ref b5, .int 0])), (b1, .inl (cI, 4096, .inl zI)), (b2, .inl (cI, 4096, .inl zI)), (b3, .inl (cI, 4096, .inl zI)), (b4, .inl (cI, 4096, .inl zI)), (b5, .inl (cZ, 4096, .inl zI)), (r0, .inr (4, [.ref n0, .ref a1, .ref a2, .ref a3, .int 0, .int 0, .int 0, .int 0, .int (-1)])), (a2, .inl (cI, 26, .inl zI)), (j0, .inr (1, [.ref n0, .ref x0, .ref j2, .ref j3, .ref j4, .ref j5, .int 0, .int 0, .int (-1), .int 0, .int 0])), (x0, .inr (0, [.ref n0, .ref c1, .ref c2, .int 0])), (p0, .inr (3, [.ref n0, .ref p1, .ref p2, .int 0, .int (-1), .int 0]))] s.heap.size = A at hD hE ⊢
  have hA : ∀ q : Nat, s.heap.size ≤ q → A q := fun q h => by rw [← hAe]; exact Or.inr h
  have hS : va_S A s.heap s.heap [] := va_S.rf
  have hl := lv_entry ([.ref h0]) (n := 4) (Nat.le_of_ble_eq_true rfl)
  rw [lg_entry_eq]
  generalize (lg_sl ([.ref h0]) ++ List.replicate (4 - (lg_sl ([.ref h0])).length) Slot.unset).toArray = ls at hl ⊢
  have hl : lv_has ls 4 [(0, .ref h0)] := hl
  refine lv_aload_n hx hb dX6_below_0 rfl (lv_at hl 0 rfl) ?_
  have hPc := hP.sub (ws' := [(h0, .inr (6, [.ref a1, .int 0, .int (-1), .ref n0, .ref r0, .ref j0, .ref p0])), (a1, .inl (cI, 60, .inl zI)), (n0, .inr (2, [.ref b1, .ref b2, .ref b3, .ref b4, .ref b5, .int 0])), (b1, .inl (cI, 4096, .inl zI)), (b2, .inl (cI, 4096, .inl zI)), (b3, .inl (cI, 4096, .inl zI)), (b4, .inl (cI, 4096, .inl zI)), (b5, .inl (cZ, 4096, .inl zI)), (r0, .inr (4, [.ref n0, .ref a1, .ref a2, .ref a3, .int 0, .int 0, .int 0, .int 0, .int (-1)])), (a2, .inl (cI, 26, .inl zI)), (j0, .inr (1, [.ref n0, .ref x0, .ref j2, .ref j3, .ref j4, .ref j5, .int 0, .int 0, .int (-1), .int 0, .int 0])), (x0, .inr (0, [.ref n0, .ref c1, .ref c2, .int 0])), (p0, .inr (3, [.ref n0, .ref p1, .ref p2, .int 0, .int (-1), .int 0]))]) [0, 1, 2, 3, 4, 5, 6, 7, 8, 9, 10, 11, 12] rfl
  have hDc := hD.sub (ws' := [(h0, .inr (6, [.ref a1, .int 0, .int (-1), .ref n0, .ref r0, .ref j0, .ref p0])), (a1, .inl (cI, 60, .inl zI)), (n0, .inr (2, [.ref b1, .ref b2, .ref b3, .ref b4, .ref b5, .int 0])), (b1, .inl (cI, 4096, .inl zI)), (b2, .inl (cI, 4096, .inl zI)), (b3, .inl (cI, 4096, .inl zI)), (b4, .inl (cI, 4096, .inl zI)), (b5, .inl (cZ, 4096, .inl zI)), (r0, .inr (4, [.ref n0, .ref a1, .ref a2, .ref a3, .int 0, .int 0, .int 0, .int 0, .int (-1)])), (a2, .inl (cI, 26, .inl zI)), (j0, .inr (1, [.ref n0, .ref x0, .ref j2, .ref j3, .ref j4, .ref j5, .int 0, .int 0, .int (-1), .int 0, .int 0])), (x0, .inr (0, [.ref n0, .ref c1, .ref c2, .int 0])), (p0, .inr (3, [.ref n0, .ref p1, .ref p2, .int 0, .int (-1), .int 0]))]) [0, 1, 2, 3, 4, 5, 6, 7, 8, 9, 10, 11, 12] (by decide) rfl
  have hFc := va_free (wc := [(h0, .inr (6, [.ref a1, .int 0, .int (-1), .ref n0, .ref r0, .ref j0, .ref p0])), (a1, .inl (cI, 60, .inl zI)), (n0, .inr (2, [.ref b1, .ref b2, .ref b3, .ref b4, .ref b5, .int 0])), (b1, .inl (cI, 4096, .inl zI)), (b2, .inl (cI, 4096, .inl zI)), (b3, .inl (cI, 4096, .inl zI)), (b4, .inl (cI, 4096, .inl zI)), (b5, .inl (cZ, 4096, .inl zI)), (r0, .inr (4, [.ref n0, .ref a1, .ref a2, .ref a3, .int 0, .int 0, .int 0, .int 0, .int (-1)])), (a2, .inl (cI, 26, .inl zI)), (j0, .inr (1, [.ref n0, .ref x0, .ref j2, .ref j3, .ref j4, .ref j5, .int 0, .int 0, .int (-1), .int 0, .int 0])), (x0, .inr (0, [.ref n0, .ref c1, .ref c2, .int 0])), (p0, .inr (3, [.ref n0, .ref p1, .ref p2, .int 0, .int (-1), .int 0]))]) hD hS hA [0, 1, 2, 3, 4, 5, 6, 7, 8, 9, 10, 11, 12] rfl
  refine va_callv (va_runV (As := []) (rest := []) ⟨hx, hb, hml, hown, hg⟩ (c_X6_startText l dC dI cI cZ cL h0 a1 n0 b1 b2 b3 b4 b5 r0 a2 j0 x0 p0 (Array.size _) a3 j2 j3 j4 j5 c1 c2 p1 p2) (cwV 0 hg (gw_V k_277 k_278 k_279 k_280 g_yX6_startText) rfl rfl rfl (by decide +kernel) ⟨(Nat.le_of_ble_eq_true rfl), (Nat.le_of_ble_eq_true rfl)⟩) ⟨hp_bl, va_recv hK hPc (ci := 6) (q0 := 0) rfl rfl, fun U hU hW => hp_ok hU hW hPc hK hDc⟩ rfl rfl hl.1 rfl (lv_room (Nat.le_of_ble_eq_true rfl)) dX6_below_1 ⟨(Nat.le_of_ble_eq_true rfl), (Nat.le_of_ble_eq_true rfl)⟩) hS (fun q _ h => hFc q h) hFc (fun u t H locs ht hvm hw hB hz1 hk1 hS => ?_)
  obtain ⟨hP1, hD1⟩ := hB
  rw [ht] at hP1
  obtain ⟨hP, hD⟩ := va_join (wr := []) (w1 := [(h0, .inr (6, [.ref a1, .int 0, .int (-1), .ref n0, .ref r0, .ref j0, .ref p0])), (r0, .inr (4, [.ref n0, .ref a1, .ref a2, .ref a3, .int 0, .int 0, .int 0, .int 0, .int (-1)]))]) hP hD [0, 1, 2, 3, 4, 5, 6, 7, 8, 9, 10, 11, 12] [] rfl rfl (by decide) (by decide) hk1 hFc hP1 hD1
  have hP : va_P (dC, dI) vwCl [(h0, .inr (6, [.ref a1, .int 0, .int (-1), .ref n0, .ref r0, .ref j0, .ref p0])), (r0, .inr (4, [.ref n0, .ref a1, .ref a2, .ref a3, .int 0, .int 0, .int 0, .int 0, .int (-1)]))] H := hP
  have hD : va_D A [(h0, .inr (6, [.ref a1, .int 0, .int (-1), .ref n0, .ref r0, .ref j0, .ref p0])), (r0, .inr (4, [.ref n0, .ref a1, .ref a2, .ref a3, .int 0, .int 0, .int 0, .int 0, .int (-1)]))] := hD
  refine W.widen (k := 0) (n := 0) (Nat.le_of_ble_eq_true rfl) (Nat.le_of_ble_eq_true rfl) ?_
  refine lv_aload_n hx hb dX6_below_4 rfl (lv_at hl 0 rfl) ?_
  refine va_get (D := (dC, dI)) (ci := 6) (v := .ref r0) (C := RX6) (T := TX6) (N := 7) hx hb hg i_X6 hown hK hP 0 rfl rfl 4 (by decide) (hg _ k_84) (fun _ h9 => h9) rfl dX6_below_5 ?_
  have hPc := hP.sub (ws' := [(r0, .inr (4, [.ref n0, .ref a1, .ref a2, .ref a3, .int 0, .int 0, .int 0, .int 0, .int (-1)]))]) [1] rfl
  have hDc := hD.sub (ws' := [(r0, .inr (4, [.ref n0, .ref a1, .ref a2, .ref a3, .int 0, .int 0, .int 0, .int 0, .int (-1)]))]) [1] (by decide) rfl
  have hFc := va_free (wc := [(r0, .inr (4, [.ref n0, .ref a1, .ref a2, .ref a3, .int 0, .int 0, .int 0, .int 0, .int (-1)]))]) hD hS hA [1] rfl
  refine va_calli (va_runV (As := []) (rest := []) ⟨hx, hb, hml, hown, hg⟩ (c_X4_typeBeforeSign l dC dI cI cZ cL r0 (Array.size _) n0 a1 a2 a3) (cwV 0 hg (gw_V k_287 k_288 k_289 k_81 g_yX4_typeBeforeSign) rfl rfl rfl (by decide +kernel) ⟨(Nat.le_of_ble_eq_true rfl), (Nat.le_of_ble_eq_true rfl)⟩) ⟨hp_bl, va_recv hK hPc (ci := 4) (q0 := 0) rfl rfl, fun U hU hW => hp_ok hU hW hPc hK hDc⟩ rfl rfl hl.1 rfl (lv_room (Nat.le_of_ble_eq_true rfl)) dX6_below_8 ⟨(Nat.le_of_ble_eq_true rfl), (Nat.le_of_ble_eq_true rfl)⟩) hS (fun q _ h => hFc q h) hFc (fun r9 u t H locs ht hvm hw hB hz1 hk1 hS => ?_)
  obtain ⟨hP1, hD1⟩ := hB
  rw [ht] at hP1
  obtain ⟨hP, hD⟩ := va_join (wr := [(h0, .inr (6, [.ref a1, .int 0, .int (-1), .ref n0, .ref r0, .ref j0, .ref p0]))]) (w1 := [(r0, .inr (4, [.ref n0, .ref a1, .ref a2, .ref a3, .int 0, .int 0, .int 0, .int 0, .int 0]))]) hP hD [1] [0] rfl rfl (by decide) (by decide) hk1 hFc hP1 hD1
  have hP : va_P (dC, dI) vwCl [(h0, .inr (6, [.ref a1, .int 0, .int (-1), .ref n0, .ref r0, .ref j0, .ref p0])), (r0, .inr (4, [.ref n0, .ref a1, .ref a2, .ref a3, .int 0, .int 0, .int 0, .int 0, .int 0]))] H := hP
  have hD : va_D A [(h0, .inr (6, [.ref a1, .int 0, .int (-1), .ref n0, .ref r0, .ref j0, .ref p0])), (r0, .inr (4, [.ref n0, .ref a1, .ref a2, .ref a3, .int 0, .int 0, .int 0, .int 0, .int 0]))] := hD
  refine W.widen (k := 0) (n := 0) (Nat.le_of_ble_eq_true rfl) (Nat.le_of_ble_eq_true rfl) ?_
  obtain rfl : r9 = (-1) := hw
  refine lv_istore_n (lv' := [(1, .int (-1)), (0, .ref h0)]) hx hb dX6_below_11 rfl hl (by decide) rfl (fun ls hl => ?_)
  refine lv_aload_n hx hb dX6_below_12 rfl (lv_at hl 1 rfl) ?_
  refine va_get (D := (dC, dI)) (ci := 6) (v := .ref r0) (C := RX6) (T := TX6) (N := 7) hx hb hg i_X6 hown hK hP 0 rfl rfl 4 (by decide) (hg _ k_84) (fun _ h9 => h9) rfl dX6_below_13 ?_
  have hPc := hP.sub (ws' := [(r0, .inr (4, [.ref n0, .ref a1, .ref a2, .ref a3, .int 0, .int 0, .int 0, .int 0, .int 0]))]) [1] rfl
  have hDc := hD.sub (ws' := [(r0, .inr (4, [.ref n0, .ref a1, .ref a2, .ref a3, .int 0, .int 0, .int 0, .int 0, .int 0]))]) [1] (by decide) rfl
  have hFc := va_free (wc := [(r0, .inr (4, [.ref n0, .ref a1, .ref a2, .ref a3, .int 0, .int 0, .int 0, .int 0, .int 0]))]) hD hS hA [1] rfl
  refine va_calli (va_runV (As := []) (rest := []) ⟨hx, hb, hml, hown, hg⟩ (c_X4_typeBehindSign l dC dI cI cZ cL r0 (Array.size _) n0 a1 a2 a3) (cwV 0 hg (gw_V k_290 k_291 k_292 k_81 g_yX4_typeBehindSign) rfl rfl rfl (by decide +kernel) ⟨(Nat.le_of_ble_eq_true rfl), (Nat.le_of_ble_eq_true rfl)⟩) ⟨hp_bl, va_recv hK hPc (ci := 4) (q0 := 0) rfl rfl, fun U hU hW => hp_ok hU hW hPc hK hDc⟩ rfl rfl hl.1 rfl (lv_room (Nat.le_of_ble_eq_true rfl)) dX6_below_16 ⟨(Nat.le_of_ble_eq_true rfl), (Nat.le_of_ble_eq_true rfl)⟩) hS (fun q _ h => hFc q h) hFc (fun r9 u t H locs ht hvm hw hB hz1 hk1 hS => ?_)
  obtain ⟨hP1, hD1⟩ := hB
  rw [ht] at hP1
  obtain ⟨hP, hD⟩ := va_join (wr := [(h0, .inr (6, [.ref a1, .int 0, .int (-1), .ref n0, .ref r0, .ref j0, .ref p0]))]) (w1 := [(r0, .inr (4, [.ref n0, .ref a1, .ref a2, .ref a3, .int 0, .int 0, .int 0, .int 0, .int 0]))]) hP hD [1] [0] rfl rfl (by decide) (by decide) hk1 hFc hP1 hD1
  have hP : va_P (dC, dI) vwCl [(h0, .inr (6, [.ref a1, .int 0, .int (-1), .ref n0, .ref r0, .ref j0, .ref p0])), (r0, .inr (4, [.ref n0, .ref a1, .ref a2, .ref a3, .int 0, .int 0, .int 0, .int 0, .int 0]))] H := hP
  have hD : va_D A [(h0, .inr (6, [.ref a1, .int 0, .int (-1), .ref n0, .ref r0, .ref j0, .ref p0])), (r0, .inr (4, [.ref n0, .ref a1, .ref a2, .ref a3, .int 0, .int 0, .int 0, .int 0, .int 0]))] := hD
  refine W.widen (k := 0) (n := 0) (Nat.le_of_ble_eq_true rfl) (Nat.le_of_ble_eq_true rfl) ?_
  obtain rfl : r9 = (-1) := hw
  refine lv_istore_n (lv' := [(2, .int (-1)), (1, .int (-1)), (0, .ref h0)]) hx hb dX6_below_19 rfl hl (by decide) rfl (fun ls hl => ?_)
  refine lv_aload_n hx hb dX6_below_20 rfl (lv_at hl 2 rfl) ?_
  refine lv_aload_n hx hb dX6_below_21 rfl (lv_at hl 2 rfl) ?_
  refine va_get (D := (dC, dI)) (ci := 6) (v := .ref r0) (C := RX6) (T := TX6) (N := 7) hx hb hg i_X6 hown hK hP 0 rfl rfl 4 (by decide) (hg _ k_84) (fun _ h9 => h9) rfl dX6_below_22 ?_
  have hPc := hP.sub (ws' := [(r0, .inr (4, [.ref n0, .ref a1, .ref a2, .ref a3, .int 0, .int 0, .int 0, .int 0, .int 0]))]) [1] rfl
  have hDc := hD.sub (ws' := [(r0, .inr (4, [.ref n0, .ref a1, .ref a2, .ref a3, .int 0, .int 0, .int 0, .int 0, .int 0]))]) [1] (by decide) rfl
  have hFc := va_free (wc := [(r0, .inr (4, [.ref n0, .ref a1, .ref a2, .ref a3, .int 0, .int 0, .int 0, .int 0, .int 0]))]) hD hS hA [1] rfl
  refine va_calli (va_runV (As := []) (rest := [.ref h0]) ⟨hx, hb, hml, hown, hg⟩ (c_X4_wrongAt l dC dI cI cZ cL r0 (Array.size _) n0 a1 a2 a3) (cwV 0 hg (gw_V k_284 k_285 k_286 k_81 g_yX4_wrongAt) rfl rfl rfl (by decide +kernel) ⟨(Nat.le_of_ble_eq_true rfl), (Nat.le_of_ble_eq_true rfl)⟩) ⟨hp_bl, va_recv hK hPc (ci := 4) (q0 := 0) rfl rfl, fun U hU hW => hp_ok hU hW hPc hK hDc⟩ rfl rfl hl.1 rfl (lv_room (Nat.le_of_ble_eq_true rfl)) dX6_below_25 ⟨(Nat.le_of_ble_eq_true rfl), (Nat.le_of_ble_eq_true rfl)⟩) hS (fun q _ h => hFc q h) hFc (fun r9 u t H locs ht hvm hw hB hz1 hk1 hS => ?_)
  obtain ⟨hP1, hD1⟩ := hB
  rw [ht] at hP1
  obtain ⟨hP, hD⟩ := va_join (wr := [(h0, .inr (6, [.ref a1, .int 0, .int (-1), .ref n0, .ref r0, .ref j0, .ref p0]))]) (w1 := [(r0, .inr (4, [.ref n0, .ref a1, .ref a2, .ref a3, .int 0, .int 0, .int 0, .int 0, .int 0]))]) hP hD [1] [0] rfl rfl (by decide) (by decide) hk1 hFc hP1 hD1
  have hP : va_P (dC, dI) vwCl [(h0, .inr (6, [.ref a1, .int 0, .int (-1), .ref n0, .ref r0, .ref j0, .ref p0])), (r0, .inr (4, [.ref n0, .ref a1, .ref a2, .ref a3, .int 0, .int 0, .int 0, .int 0, .int 0]))] H := hP
  have hD : va_D A [(h0, .inr (6, [.ref a1, .int 0, .int (-1), .ref n0, .ref r0, .ref j0, .ref p0])), (r0, .inr (4, [.ref n0, .ref a1, .ref a2, .ref a3, .int 0, .int 0, .int 0, .int 0, .int 0]))] := hD
  refine W.widen (k := 0) (n := 0) (Nat.le_of_ble_eq_true rfl) (Nat.le_of_ble_eq_true rfl) ?_
  obtain rfl : r9 = 0 := hw
  refine va_put (D := (dC, dI)) (ci := 6) (v := .int 0) (ty := .int) (C := RX6) (T := TX6) (N := 7) hx hb hg i_X6 tyX6 tyX6_ok nmX6 hown hK hP hD hS 0 rfl rfl 2 (by decide) (hg _ k_73) (fun _ h9 => h9) rfl (by decide +kernel) rfl rfl (Nat.le_of_ble_eq_true rfl) dX6_below_28 (fun H locs hP hD hS => ?_)
  have hP : va_P (dC, dI) vwCl [(h0, .inr (6, [.ref a1, .int 0, .int 0, .ref n0, .ref r0, .ref j0, .ref p0])), (r0, .inr (4, [.ref n0, .ref a1, .ref a2, .ref a3, .int 0, .int 0, .int 0, .int 0, .int 0]))] H := hP
  have hD : va_D A [(h0, .inr (6, [.ref a1, .int 0, .int 0, .ref n0, .ref r0, .ref j0, .ref p0])), (r0, .inr (4, [.ref n0, .ref a1, .ref a2, .ref a3, .int 0, .int 0, .int 0, .int 0, .int 0]))] := hD
  refine lv_aload_n hx hb dX6_below_31 rfl (lv_at hl 2 rfl) ?_
  refine va_get (D := (dC, dI)) (ci := 6) (v := .int 0) (C := RX6) (T := TX6) (N := 7) hx hb hg i_X6 hown hK hP 0 rfl rfl 2 (by decide) (hg _ k_73) (fun _ h9 => h9) rfl dX6_below_32 ?_
  refine lv_iconst (v := (-1)) hx hb dX6_below_35 (by decide) ?_
  refine lv_icmp_eq (tgt := 49) hx hb dX6_below_36 (by decide) (fun c9 => absurd c9 (by decide)) (fun _ => ?_)
  obtain ⟨hC1, hC2, ⟨hd1, hd2, hd3⟩, hU, hN, hT4⟩ := hE
  obtain ⟨⟨sa0, hs0⟩, ⟨sa1, hs1⟩, ⟨sa2, hs2⟩, sa3, hs3⟩ := hT4
  exact vx_throwS (own := RX6) (cls := "java/lang/IllegalArgumentException") (text := "the text is no pair of types") (names := ["java/lang/RuntimeException", "java/lang/Exception"]) (ik := 52) (is := 97) (ic := 56) (sa := sa2) (A := A) hx hb hst hown (by decide +kernel) (by decide +kernel) (hg _ k_274) (hg _ k_275) hs2 (vx_hat (fun w h => hg w (at_I w h)) no_I (vx_c (va_Nw.use rfl hC1) (vx_c (va_Nw.use rfl hd1) (vx_c (va_Nw.use rfl hd2) (vx_c (va_Nw.use rfl hd3) vx_n))))) ot_I hU hN hS (by rw [hml]; exact hl.1) dX6_below_39 dX6_below_42 dX6_below_43 dX6_below_45 dX6_below_48 (fun x h => (htb x h).elim) (Nat.le_of_ble_eq_true rfl) (Nat.le_of_ble_eq_true rfl) (Nat.le_of_ble_eq_true rfl) (Nat.le_of_ble_eq_true rfl) hlocks (fun t _ h1 h2 => ⟨(), trivial, rfl, fr_X hS h1 h2⟩) hS.2.2 (Nat.le_of_ble_eq_true rfl) (Nat.le_of_ble_eq_true rfl)

set_option maxHeartbeats 4000000 in
set_option maxRecDepth 100000 in
/-- out(i), i < 0: throws -/
theorem c_X6_outN (l : Launch) (dC : Nat → ClassId) (dI : Nat → Nat → Nat) (cI cZ cL : ClassId) (h0 p0 n0 : Nat) (sz : Nat) (r0 j0 a1 p1 p2 b1 b2 b3 b4 b5 : Nat) (x : Int32) (hst : l.stackTraces = false) (hn : x < 0) : vx_Met l yX6_out (wd yX6_out cX6_out 2 (some .int)) ({ frames := 6, cells := 1, slots := 6, locals := 82 }) (va_Pc [.ref h0, .int x] (hpx dC dI cI cZ cL sz [(h0, .inr (6, [.ref a1, .int 0, .int (-1), .ref n0, .ref r0, .ref j0, .ref p0])), (p0, .inr (3, [.ref n0, .ref p1, .ref p2, .int 0, .int (-1), .int 0])), (n0, .inr (2, [.ref b1, .ref b2, .ref b3, .ref b4, .ref b5, .int 0]))])) (va_Qi (fun (r : Int32) (_ : Unit) => False) (fun (_ : Unit) t => va_P (dC, dI) vwCl [] t.heap ∧ va_D (va_A [(h0, .inr (6, [.ref a1, .int 0, .int (-1), .ref n0, .ref r0, .ref j0, .ref p0])), (p0, .inr (3, [.ref n0, .ref p1, .ref p2, .int 0, .int (-1), .int 0])), (n0, .inr (2, [.ref b1, .ref b2, .ref b3, .ref b4, .ref b5, .int 0]))] sz) []) (va_A [(h0, .inr (6, [.ref a1, .int 0, .int (-1), .ref n0, .ref r0, .ref j0, .ref p0])), (p0, .inr (3, [.ref n0, .ref p1, .ref p2, .int 0, .int (-1), .int 0])), (n0, .inr (2, [.ref b1, .ref b2, .ref b3, .ref b4, .ref b5, .int 0]))] sz)) (vx_X (fun (_ : Unit) => True) (fun E _ _ => E = "java/lang/IndexOutOfBoundsException") (va_A [(h0, .inr (6, [.ref a1, .int 0, .int (-1), .ref n0, .ref r0, .ref j0, .ref p0])), (p0, .inr (3, [.ref n0, .ref p1, .ref p2, .int 0, .int (-1), .int 0])), (n0, .inr (2, [.ref b1, .ref b2, .ref b3, .ref b4, .ref b5, .int 0]))] sz)) 1 6 (va_A [(h0, .inr (6, [.ref a1, .int 0, .int (-1), .ref n0, .ref r0, .ref j0, .ref p0])), (p0, .inr (3, [.ref n0, .ref p1, .ref p2, .int 0, .int (-1), .int 0])), (n0, .inr (2, [.ref b1, .ref b2, .ref b3, .ref b4, .ref b5, .int 0]))] sz) := by
  refine vx_ofW (cc := cX6_out) (maxL := 2) (ret := (some .int)) (by decide) rfl ?_
  intro p e s m args below meth c s₁ B hml htb hv
  obtain ⟨rfl, hsz, hP, hK, hD0, hE0⟩ := hv
  have hx := B.exec
  have hb := B.bytes
  have hr := B.returns
  have hw9 := atoms_spec (ws := (wd yX6_out cX6_out 2 (some .int))) B.pre
  have hg := gw_hts hw9
  have hown : s.vm.findClass RX6 = some m.cls := findClass_of_methodNamed B.named
  have hlocks := B.notSynchronized
  subst hsz
  have hD := hD0.self (sz := s.heap.size)
  have hE := hE0
  generalize hAe : va_A [(h0, .inr (6, [.ref a1, .int 0, .int (-1), .ref n0, .ref r0, .ref j0, .ref p0])), (p0, .inr (3, [.ref n0, .ref p1, .ref p2, .int 0, .int (-1), .int 0])), (n0, .inr (2, [.ref b1, .ref b2, .ref b3, .ref b4, .ref b5, .int 0]))] s.heap.size = A at hD hE ⊢
  have hA : ∀ q : Nat, s.heap.size ≤ q → A q := fun q h => by rw [← hAe]; exact Or.inr h
  have hS : va_S A s.heap s.heap [] := va_S.rf
  have hl := lv_entry ([.ref h0, .int x]) (n := 2) (Nat.le_of_ble_eq_true rfl)
  rw [lg_entry_eq]
  generalize (lg_sl ([.ref h0, .int x]) ++ List.replicate (2 - (lg_sl ([.ref h0, .int x])).length) Slot.unset).toArray = ls at hl ⊢
  have hl : lv_has ls 2 [(0, .ref h0), (1, .int x)] := hl
  refine lv_iload_n hx hb dX6_out_0 rfl (lv_at hl 1 rfl) ?_
  refine lv_if_lt (tgt := 15) hx hb dX6_out_1 (by decide) (fun _ => ?_) (fun c9 => absurd hn c9)
  obtain ⟨hC1, hC2, ⟨hd1, hd2, hd3⟩, hU, hN, hT4⟩ := hE
  obtain ⟨⟨sa0, hs0⟩, ⟨sa1, hs1⟩, ⟨sa2, hs2⟩, sa3, hs3⟩ := hT4
  exact vx_throwS (own := RX6) (cls := "java/lang/IndexOutOfBoundsException") (text := "no such byte is printed") (names := ["java/lang/RuntimeException", "java/lang/Exception"]) (ik := 106) (is := 108) (ic := 110) (sa := sa3) (A := A) hx hb hst hown (by decide +kernel) (by decide +kernel) (hg _ k_293) (hg _ k_294) hs3 (vx_hat (fun w h => hg w (at_O w h)) no_O (vx_c (va_Nw.use rfl hC2) (vx_c (va_Nw.use rfl hd1) (vx_c (va_Nw.use rfl hd2) (vx_c (va_Nw.use rfl hd3) vx_n))))) ot_O hU hN hS (by rw [hml]; exact hl.1) dX6_out_15 dX6_out_18 dX6_out_19 dX6_out_21 dX6_out_24 (fun x h => (htb x h).elim) (Nat.le_of_ble_eq_true rfl) (Nat.le_of_ble_eq_true rfl) (Nat.le_of_ble_eq_true rfl) (Nat.le_of_ble_eq_true rfl) hlocks (fun t _ h1 h2 => ⟨(), trivial, rfl, fr_X hS h1 h2⟩) hS.2.2 (Nat.le_of_ble_eq_true rfl) (Nat.le_of_ble_eq_true rfl)

set_option maxHeartbeats 4000000 in
set_option maxRecDepth 100000 in
/-- out(i), 0 <= i: throws -/
theorem c_X6_outP (l : Launch) (dC : Nat → ClassId) (dI : Nat → Nat → Nat) (cI cZ cL : ClassId) (h0 p0 n0 : Nat) (sz : Nat) (r0 j0 a1 p1 p2 b1 b2 b3 b4 b5 : Nat) (x : Int32) (hst : l.stackTraces = false) (hn : ¬ x < 0) : vx_Met l yX6_out (wd yX6_out cX6_out 2 (some .int)) ({ frames := 6, cells := 1, slots := 6, locals := 82 }) (va_Pc [.ref h0, .int x] (hpx dC dI cI cZ cL sz [(h0, .inr (6, [.ref a1, .int 0, .int (-1), .ref n0, .ref r0, .ref j0, .ref p0])), (p0, .inr (3, [.ref n0, .ref p1, .ref p2, .int 0, .int (-1), .int 0])), (n0, .inr (2, [.ref b1, .ref b2, .ref b3, .ref b4, .ref b5, .int 0]))])) (va_Qi (fun (r : Int32) (_ : Unit) => False) (fun (_ : Unit) t => va_P (dC, dI) vwCl [] t.heap ∧ va_D (va_A [(h0, .inr (6, [.ref a1, .int 0, .int (-1), .ref n0, .ref r0, .ref j0, .ref p0])), (p0, .inr (3, [.ref n0, .ref p1, .ref p2, .int 0, .int (-1), .int 0])), (n0, .inr (2, [.ref b1, .ref b2, .ref b3, .ref b4, .ref b5, .int 0]))] sz) []) (va_A [(h0, .inr (6, [.ref a1, .int 0, .int (-1), .ref n0, .ref r0, .ref j0, .ref p0])), (p0, .inr (3, [.ref n0, .ref p1, .ref p2, .int 0, .int (-1), .int 0])), (n0, .inr (2, [.ref b1, .ref b2, .ref b3, .ref b4, .ref b5, .int 0]))] sz)) (vx_X (fun (_ : Unit) => True) (fun E _ _ => E = "java/lang/IndexOutOfBoundsException") (va_A [(h0, .inr (6, [.ref a1, .int 0, .int (-1), .ref n0, .ref r0, .ref j0, .ref p0])), (p0, .inr (3, [.ref n0, .ref p1, .ref p2, .int 0, .int (-1), .int 0])), (n0, .inr (2, [.ref b1, .ref b2, .ref b3, .ref b4, .ref b5, .int 0]))] sz)) 1 6 (va_A [(h0, .inr (6, [.ref a1, .int 0, .int (-1), .ref n0, .ref r0, .ref j0, .ref p0])), (p0, .inr (3, [.ref n0, .ref p1, .ref p2, .int 0, .int (-1), .int 0])), (n0, .inr (2, [.ref b1, .ref b2, .ref b3, .ref b4, .ref b5, .int 0]))] sz) := by
  refine vx_ofW (cc := cX6_out) (maxL := 2) (ret := (some .int)) (by decide) rfl ?_
  intro p e s m args below meth c s₁ B hml htb hv
  obtain ⟨rfl, hsz, hP, hK, hD0, hE0⟩ := hv
  have hx := B.exec
  have hb := B.bytes
  have hr := B.returns
  have hw9 := atoms_spec (ws := (wd yX6_out cX6_out 2 (some .int))) B.pre
  have hg := gw_hts hw9
  have hown : s.vm.findClass RX6 = some m.cls := findClass_of_methodNamed B.named
  have hlocks := B.notSynchronized
  subst hsz
  have hD := hD0.self (sz := s.heap.size)
  have hE := hE0
  generalize hAe : va_A [(h0, .inr (6, [.ref a1, .int 0, .int (-1), .ref n0, .ref r0, .ref j0, .ref p0])), (p0, .inr (3, [.ref n0, .ref p1, .ref p2, .int 0, .int (-1), .int 0])), (n0, .inr (2, [.ref b1, .ref b2, .ref b3, .ref b4, .ref b5, .int 0]))] s.heap.size = A at hD hE ⊢
  have hA : ∀ q : Nat, s.heap.size ≤ q → A q := fun q h => by rw [← hAe]; exact Or.inr h
  have hS : va_S A s.heap s.heap [] := va_S.rf
  have hl := lv_entry ([.ref h0, .int x]) (n := 2) (Nat.le_of_ble_eq_true rfl)
  rw [lg_entry_eq]
  generalize (lg_sl ([.ref h0, .int x]) ++ List.replicate (2 - (lg_sl ([.ref h0, .int x])).length) Slot.unset).toArray = ls at hl ⊢
  have hl : lv_has ls 2 [(0, .ref h0), (1, .int x)] := hl
  refine lv_iload_n hx hb dX6_out_0 rfl (lv_at hl 1 rfl) ?_
  refine lv_if_lt (tgt := 15) hx hb dX6_out_1 (by decide) (fun c9 => absurd c9 hn) (fun _ => ?_)
  refine lv_iload_n hx hb dX6_out_4 rfl (lv_at hl 1 rfl) ?_
  refine lv_aload_n hx hb dX6_out_5 rfl (lv_at hl 0 rfl) ?_
  refine va_get (D := (dC, dI)) (ci := 6) (v := .ref p0) (C := RX6) (T := TX6) (N := 7) hx hb hg i_X6 hown hK hP 0 rfl rfl 6 (by decide) (hg _ k_96) (fun _ h9 => h9) rfl dX6_out_6 ?_
  have hPc := hP.sub (ws' := [(p0, .inr (3, [.ref n0, .ref p1, .ref p2, .int 0, .int (-1), .int 0])), (n0, .inr (2, [.ref b1, .ref b2, .ref b3, .ref b4, .ref b5, .int 0]))]) [1, 2] rfl
  have hDc := hD.sub (ws' := [(p0, .inr (3, [.ref n0, .ref p1, .ref p2, .int 0, .int (-1), .int 0])), (n0, .inr (2, [.ref b1, .ref b2, .ref b3, .ref b4, .ref b5, .int 0]))]) [1, 2] (by decide) rfl
  have hFc := va_free (wc := [(p0, .inr (3, [.ref n0, .ref p1, .ref p2, .int 0, .int (-1), .int 0])), (n0, .inr (2, [.ref b1, .ref b2, .ref b3, .ref b4, .ref b5, .int 0]))]) hD hS hA [1, 2] rfl
  refine va_calli (va_runV (As := []) (rest := [.int x]) ⟨hx, hb, hml, hown, hg⟩ (c_X3_length l dC dI cI cZ cL p0 n0 (Array.size _) p1 p2 b1 b2 b3 b4 b5) (cwV 0 hg (gw_V k_200 k_201 k_202 k_93 g_yX3_length) rfl rfl rfl (by decide +kernel) ⟨(Nat.le_of_ble_eq_true rfl), (Nat.le_of_ble_eq_true rfl)⟩) ⟨hp_bl, va_recv hK hPc (ci := 3) (q0 := 0) rfl rfl, fun U hU hW => hp_ok hU hW hPc hK hDc⟩ rfl rfl hl.1 rfl (lv_room (Nat.le_of_ble_eq_true rfl)) dX6_out_9 ⟨(Nat.le_of_ble_eq_true rfl), (Nat.le_of_ble_eq_true rfl)⟩) hS (fun q _ h => hFc q h) hFc (fun r9 u t H locs ht hvm hw hB hz1 hk1 hS => ?_)
  obtain ⟨hP1, hD1⟩ := hB
  rw [ht] at hP1
  obtain ⟨hP, hD⟩ := va_join (wr := [(h0, .inr (6, [.ref a1, .int 0, .int (-1), .ref n0, .ref r0, .ref j0, .ref p0]))]) (w1 := [(p0, .inr (3, [.ref n0, .ref p1, .ref p2, .int 0, .int (-1), .int 0])), (n0, .inr (2, [.ref b1, .ref b2, .ref b3, .ref b4, .ref b5, .int 0]))]) hP hD [1, 2] [0] rfl rfl (by decide) (by decide) hk1 hFc hP1 hD1
  have hP : va_P (dC, dI) vwCl [(h0, .inr (6, [.ref a1, .int 0, .int (-1), .ref n0, .ref r0, .ref j0, .ref p0])), (p0, .inr (3, [.ref n0, .ref p1, .ref p2, .int 0, .int (-1), .int 0])), (n0, .inr (2, [.ref b1, .ref b2, .ref b3, .ref b4, .ref b5, .int 0]))] H := hP
  have hD : va_D A [(h0, .inr (6, [.ref a1, .int 0, .int (-1), .ref n0, .ref r0, .ref j0, .ref p0])), (p0, .inr (3, [.ref n0, .ref p1, .ref p2, .int 0, .int (-1), .int 0])), (n0, .inr (2, [.ref b1, .ref b2, .ref b3, .ref b4, .ref b5, .int 0]))] := hD
  refine W.widen (k := 0) (n := 0) (Nat.le_of_ble_eq_true rfl) (Nat.le_of_ble_eq_true rfl) ?_
  obtain rfl : r9 = 0 := hw
  refine lv_icmp_lt (tgt := 25) hx hb dX6_out_12 (by decide) (fun c9 => absurd c9 hn) (fun _ => ?_)
  obtain ⟨hC1, hC2, ⟨hd1, hd2, hd3⟩, hU, hN, hT4⟩ := hE
  obtain ⟨⟨sa0, hs0⟩, ⟨sa1, hs1⟩, ⟨sa2, hs2⟩, sa3, hs3⟩ := hT4
  exact vx_throwS (own := RX6) (cls := "java/lang/IndexOutOfBoundsException") (text := "no such byte is printed") (names := ["java/lang/RuntimeException", "java/lang/Exception"]) (ik := 106) (is := 108) (ic := 110) (sa := sa3) (A := A) hx hb hst hown (by decide +kernel) (by decide +kernel) (hg _ k_293) (hg _ k_294) hs3 (vx_hat (fun w h => hg w (at_O w h)) no_O (vx_c (va_Nw.use rfl hC2) (vx_c (va_Nw.use rfl hd1) (vx_c (va_Nw.use rfl hd2) (vx_c (va_Nw.use rfl hd3) vx_n))))) ot_O hU hN hS (by rw [hml]; exact hl.1) dX6_out_15 dX6_out_18 dX6_out_19 dX6_out_21 dX6_out_24 (fun x h => (htb x h).elim) (Nat.le_of_ble_eq_true rfl) (Nat.le_of_ble_eq_true rfl) (Nat.le_of_ble_eq_true rfl) (Nat.le_of_ble_eq_true rfl) hlocks (fun t _ h1 h2 => ⟨(), trivial, rfl, fr_X hS h1 h2⟩) hS.2.2 (Nat.le_of_ble_eq_true rfl) (Nat.le_of_ble_eq_true rfl)
end
section
set_option maxHeartbeats 4000000 in
set_option maxRecDepth 100000 in
/-- the law's feed: the class throws -/
theorem c_L_feedL (l : Launch) (dC : Nat → ClassId) (dI : Nat → Nat → Nat) (cI cZ cL : ClassId) (h0 o0 : Nat) (sz : Nat) (n0 r0 j0 p0 a1 : Nat) (b : Int64) (x : Int32) (g : Nat → Int64) (hst : l.stackTraces = false) (hn : x < 1) : Met l yL_feed (wh yL_feed cL_feed 6 (some .int) [(0, 11, 14, 13), (0, 11, 18, 15)]) ({ frames := 7, cells := 1, slots := 6, locals := 106 }) (va_Pc [.ref h0, .long b, .int x, .ref o0] (hpx dC dI cI cZ cL sz [(h0, .inr (6, [.ref a1, .int 0, .int (-1), .ref n0, .ref r0, .ref j0, .ref p0])), (o0, .inl (cL, 1, .inr (.inl g)))])) (va_Qi (fun (r : Int32) (_ : Unit) => r = 1) (fun (_ : Unit) t => va_P (dC, dI) vwCl [(o0, .inl (cL, 1, .inr (.inl g)))] t.heap ∧ va_D (va_A [(h0, .inr (6, [.ref a1, .int 0, .int (-1), .ref n0, .ref r0, .ref j0, .ref p0])), (o0, .inl (cL, 1, .inr (.inl g)))] sz) [(o0, .inl (cL, 1, .inr (.inl g)))]) (va_A [(h0, .inr (6, [.ref a1, .int 0, .int (-1), .ref n0, .ref r0, .ref j0, .ref p0])), (o0, .inl (cL, 1, .inr (.inl g)))] sz)) 1 6 (va_A [(h0, .inr (6, [.ref a1, .int 0, .int (-1), .ref n0, .ref r0, .ref j0, .ref p0])), (o0, .inl (cL, 1, .inr (.inl g)))] sz) := by
  refine va_MetW (cc := cL_feed) (maxL := 6) (ret := (some .int)) (hh := [(0, 11, 14, 13), (0, 11, 18, 15)]) (by decide) rfl ?_
  intro p e s m args below meth c s₁ B hml hv
  obtain ⟨rfl, hsz, hP, hK, hD0, hE0⟩ := hv
  have hx := B.exec
  have hb := B.bytes
  have hr := B.returns
  have hw9 := atoms_spec (ws := (wh yL_feed cL_feed 6 (some .int) [(0, 11, 14, 13), (0, 11, 18, 15)])) B.pre
  have hg := gw_hts hw9
  have hown : s.vm.findClass RL = some m.cls := findClass_of_methodNamed B.named
  have hlocks := B.notSynchronized
  have hct := vx_table (x := yL_feed) B (hw9 _ List.mem_cons_self)
  subst hsz
  have hD := hD0.self (sz := s.heap.size)
  have hE := hE0
  generalize hAe : va_A [(h0, .inr (6, [.ref a1, .int 0, .int (-1), .ref n0, .ref r0, .ref j0, .ref p0])), (o0, .inl (cL, 1, .inr (.inl g)))] s.heap.size = A at hD hE ⊢
  have hA : ∀ q : Nat, s.heap.size ≤ q → A q := fun q h => by rw [← hAe]; exact Or.inr h
  have hS : va_S A s.heap s.heap [] := va_S.rf
  have hl := lv_entry ([.ref h0, .long b, .int x, .ref o0]) (n := 6) (Nat.le_of_ble_eq_true rfl)
  rw [lg_entry_eq]
  generalize (lg_sl ([.ref h0, .long b, .int x, .ref o0]) ++ List.replicate (6 - (lg_sl ([.ref h0, .long b, .int x, .ref o0])).length) Slot.unset).toArray = ls at hl ⊢
  have hl : lv_has ls 6 [(0, .ref h0), (1, .long b), (3, .int x), (4, .ref o0)] := hl
  refine lv_aload hx hb dL_feed_0 (lv_at hl 3 rfl) ?_
  refine lv_iconst (v := 0) hx hb dL_feed_2 (by decide) ?_
  refine lv_aload_n hx hb dL_feed_3 rfl (lv_at hl 0 rfl) ?_
  refine lv_lload_n hx hb dL_feed_4 rfl (lv_at hl 1 rfl) ?_
  refine lv_iload_n hx hb dL_feed_5 rfl (lv_at hl 2 rfl) ?_
  have hPc := hP.sub (ws' := [(h0, .inr (6, [.ref a1, .int 0, .int (-1), .ref n0, .ref r0, .ref j0, .ref p0]))]) [0] rfl
  have hDc := hD.sub (ws' := [(h0, .inr (6, [.ref a1, .int 0, .int (-1), .ref n0, .ref r0, .ref j0, .ref p0]))]) [0] (by decide) rfl
  have hFc := va_free (wc := [(h0, .inr (6, [.ref a1, .int 0, .int (-1), .ref n0, .ref r0, .ref j0, .ref p0]))]) hD hS hA [0] rfl
  refine vx_calli (vx_runV (As := [.long b, .int x]) (rest := [.int 0, .ref o0]) ⟨hx, hb, hml, hown, hg⟩ (c_X6_feedL l dC dI cI cZ cL h0 (Array.size _) n0 r0 j0 p0 a1 b x hst hn) (cwV 2 hg (gw_V k_295 k_296 k_297 k_280 g_yX6_feed) rfl rfl rfl (by decide +kernel) ⟨(Nat.le_of_ble_eq_true rfl), (Nat.le_of_ble_eq_true rfl)⟩) ⟨hpx_bl, va_recv hK hPc (ci := 6) (q0 := 0) rfl rfl, fun U hU hW => hpx_ok hU hW hPc hK hDc hE hS hFc⟩ rfl rfl hl.1 rfl (lv_room (Nat.le_of_ble_eq_true rfl)) dL_feed_6 ⟨(Nat.le_of_ble_eq_true rfl), (Nat.le_of_ble_eq_true rfl)⟩) hS (fun q _ h => hFc q h) hFc (fun q _ h => hFc q h) (fun E9 ce9 q9 u t H locs ht hvm hw hB hz1 hk1 hS hce hcv hcl => ?_) (fun r9 u t H locs ht hvm hw hB hz1 hk1 hS => hw.elim)
  obtain rfl := hB
  obtain ⟨hP, hD⟩ := va_join (wr := [(o0, .inl (cL, 1, .inr (.inl g)))]) (w1 := []) hP hD [0] [1] rfl rfl (by decide) (by decide) hk1 hFc nil_P nil_D
  have hP : va_P (dC, dI) vwCl [(o0, .inl (cL, 1, .inr (.inl g)))] H := hP
  have hD : va_D A [(o0, .inl (cL, 1, .inr (.inl g)))] := hD
  refine vx_widen (k := 1) (n := 6) (Nat.le_of_ble_eq_true rfl) (Nat.le_of_ble_eq_true rfl) ?_
  refine ct_catch (own := RL) (name := "java/lang/IllegalArgumentException") hown _ _ hct (by decide) (by decide) (hg _ k_298) (va_Nw.use rfl hE.1) hce hcv hcl ?_
  refine W.eq (g2 := F0 m 14 ls [.ref q9]) rfl ?_
  refine lv_astore (lv' := [(5, .ref q9), (0, .ref h0), (1, .long b), (3, .int x), (4, .ref o0)]) hx hb dL_feed_14 hl (by decide) rfl (fun ls hl => ?_)
  refine lv_iconst (v := 1) hx hb dL_feed_16 (by decide) ?_
  have hP9 := hP.sub (ws' := [(o0, .inl (cL, 1, .inr (.inl g)))]) [0] rfl
  have hD9 := hD.sub (ws' := [(o0, .inl (cL, 1, .inr (.inl g)))]) [0] (by decide) rfl
  refine W.widen (k := 1) (n := 6) (Nat.le_of_ble_eq_true rfl) (Nat.le_of_ble_eq_true rfl) ?_
  exact W.iret (v := 1) hx hb hr (fun t ht hW => ⟨⟨1, (), rfl, rfl, by rw [ht]; exact hP9, hD9⟩, hS.F ht⟩) hS.2.2 dL_feed_17

set_option maxHeartbeats 4000000 in
set_option maxRecDepth 100000 in
/-- the law's feed: the class throws -/
theorem c_L_feedH (l : Launch) (dC : Nat → ClassId) (dI : Nat → Nat → Nat) (cI cZ cL : ClassId) (h0 o0 : Nat) (sz : Nat) (n0 r0 j0 p0 a1 : Nat) (b : Int64) (x : Int32) (g : Nat → Int64) (hst : l.stackTraces = false) (hn : ¬ x < 1) (hm : ¬ x ≤ 8) : Met l yL_feed (wh yL_feed cL_feed 6 (some .int) [(0, 11, 14, 13), (0, 11, 18, 15)]) ({ frames := 7, cells := 1, slots := 6, locals := 106 }) (va_Pc [.ref h0, .long b, .int x, .ref o0] (hpx dC dI cI cZ cL sz [(h0, .inr (6, [.ref a1, .int 0, .int (-1), .ref n0, .ref r0, .ref j0, .ref p0])), (o0, .inl (cL, 1, .inr (.inl g)))])) (va_Qi (fun (r : Int32) (_ : Unit) => r = 1) (fun (_ : Unit) t => va_P (dC, dI) vwCl [(o0, .inl (cL, 1, .inr (.inl g)))] t.heap ∧ va_D (va_A [(h0, .inr (6, [.ref a1, .int 0, .int (-1), .ref n0, .ref r0, .ref j0, .ref p0])), (o0, .inl (cL, 1, .inr (.inl g)))] sz) [(o0, .inl (cL, 1, .inr (.inl g)))]) (va_A [(h0, .inr (6, [.ref a1, .int 0, .int (-1), .ref n0, .ref r0, .ref j0, .ref p0])), (o0, .inl (cL, 1, .inr (.inl g)))] sz)) 1 6 (va_A [(h0, .inr (6, [.ref a1, .int 0, .int (-1), .ref n0, .ref r0, .ref j0, .ref p0])), (o0, .inl (cL, 1, .inr (.inl g)))] sz) := by
  refine va_MetW (cc := cL_feed) (maxL := 6) (ret := (some .int)) (hh := [(0, 11, 14, 13), (0, 11, 18, 15)]) (by decide) rfl ?_
  intro p e s m args below meth c s₁ B hml hv
  obtain ⟨rfl, hsz, hP, hK, hD0, hE0⟩ := hv
  have hx := B.exec
  have hb := B.bytes
  have hr := B.returns
  have hw9 := atoms_spec (ws := (wh yL_feed cL_feed 6 (some .int) [(0, 11, 14, 13), (0, 11, 18, 15)])) B.pre
  have hg := gw_hts hw9
  have hown : s.vm.findClass RL = some m.cls := findClass_of_methodNamed B.named
  have hlocks := B.notSynchronized
  have hct := vx_table (x := yL_feed) B (hw9 _ List.mem_cons_self)
  subst hsz
  have hD := hD0.self (sz := s.heap.size)
  have hE := hE0
  generalize hAe : va_A [(h0, .inr (6, [.ref a1, .int 0, .int (-1), .ref n0, .ref r0, .ref j0, .ref p0])), (o0, .inl (cL, 1, .inr (.inl g)))] s.heap.size = A at hD hE ⊢
  have hA : ∀ q : Nat, s.heap.size ≤ q → A q := fun q h => by rw [← hAe]; exact Or.inr h
  have hS : va_S A s.heap s.heap [] := va_S.rf
  have hl := lv_entry ([.ref h0, .long b, .int x, .ref o0]) (n := 6) (Nat.le_of_ble_eq_true rfl)
  rw [lg_entry_eq]
  generalize (lg_sl ([.ref h0, .long b, .int x, .ref o0]) ++ List.replicate (6 - (lg_sl ([.ref h0, .long b, .int x, .ref o0])).length) Slot.unset).toArray = ls at hl ⊢
  have hl : lv_has ls 6 [(0, .ref h0), (1, .long b), (3, .int x), (4, .ref o0)] := hl
  refine lv_aload hx hb dL_feed_0 (lv_at hl 3 rfl) ?_
  refine lv_iconst (v := 0) hx hb dL_feed_2 (by decide) ?_
  refine lv_aload_n hx hb dL_feed_3 rfl (lv_at hl 0 rfl) ?_
  refine lv_lload_n hx hb dL_feed_4 rfl (lv_at hl 1 rfl) ?_
  refine lv_iload_n hx hb dL_feed_5 rfl (lv_at hl 2 rfl) ?_
  have hPc := hP.sub (ws' := [(h0, .inr (6, [.ref a1, .int 0, .int (-1), .ref n0, .ref r0, .ref j0, .ref p0]))]) [0] rfl
  have hDc := hD.sub (ws' := [(h0, .inr (6, [.ref a1, .int 0, .int (-1), .ref n0, .ref r0, .ref j0, .ref p0]))]) [0] (by decide) rfl
  have hFc := va_free (wc := [(h0, .inr (6, [.ref a1, .int 0, .int (-1), .ref n0, .ref r0, .ref j0, .ref p0]))]) hD hS hA [0] rfl
  refine vx_calli (vx_runV (As := [.long b, .int x]) (rest := [.int 0, .ref o0]) ⟨hx, hb, hml, hown, hg⟩ (c_X6_feedH l dC dI cI cZ cL h0 (Array.size _) n0 r0 j0 p0 a1 b x hst hn hm) (cwV 2 hg (gw_V k_295 k_296 k_297 k_280 g_yX6_feed) rfl rfl rfl (by decide +kernel) ⟨(Nat.le_of_ble_eq_true rfl), (Nat.le_of_ble_eq_true rfl)⟩) ⟨hpx_bl, va_recv hK hPc (ci := 6) (q0 := 0) rfl rfl, fun U hU hW => hpx_ok hU hW hPc hK hDc hE hS hFc⟩ rfl rfl hl.1 rfl (lv_room (Nat.le_of_ble_eq_true rfl)) dL_feed_6 ⟨(Nat.le_of_ble_eq_true rfl), (Nat.le_of_ble_eq_true rfl)⟩) hS (fun q _ h => hFc q h) hFc (fun q _ h => hFc q h) (fun E9 ce9 q9 u t H locs ht hvm hw hB hz1 hk1 hS hce hcv hcl => ?_) (fun r9 u t H locs ht hvm hw hB hz1 hk1 hS => hw.elim)
  obtain rfl := hB
  obtain ⟨hP, hD⟩ := va_join (wr := [(o0, .inl (cL, 1, .inr (.inl g)))]) (w1 := []) hP hD [0] [1] rfl rfl (by decide) (by decide) hk1 hFc nil_P nil_D
  have hP : va_P (dC, dI) vwCl [(o0, .inl (cL, 1, .inr (.inl g)))] H := hP
  have hD : va_D A [(o0, .inl (cL, 1, .inr (.inl g)))] := hD
  refine vx_widen (k := 1) (n := 6) (Nat.le_of_ble_eq_true rfl) (Nat.le_of_ble_eq_true rfl) ?_
  refine ct_catch (own := RL) (name := "java/lang/IllegalArgumentException") hown _ _ hct (by decide) (by decide) (hg _ k_298) (va_Nw.use rfl hE.1) hce hcv hcl ?_
  refine W.eq (g2 := F0 m 14 ls [.ref q9]) rfl ?_
  refine lv_astore (lv' := [(5, .ref q9), (0, .ref h0), (1, .long b), (3, .int x), (4, .ref o0)]) hx hb dL_feed_14 hl (by decide) rfl (fun ls hl => ?_)
  refine lv_iconst (v := 1) hx hb dL_feed_16 (by decide) ?_
  have hP9 := hP.sub (ws' := [(o0, .inl (cL, 1, .inr (.inl g)))]) [0] rfl
  have hD9 := hD.sub (ws' := [(o0, .inl (cL, 1, .inr (.inl g)))]) [0] (by decide) rfl
  refine W.widen (k := 1) (n := 6) (Nat.le_of_ble_eq_true rfl) (Nat.le_of_ble_eq_true rfl) ?_
  exact W.iret (v := 1) hx hb hr (fun t ht hW => ⟨⟨1, (), rfl, rfl, by rw [ht]; exact hP9, hD9⟩, hS.F ht⟩) hS.2.2 dL_feed_17

set_option maxHeartbeats 4000000 in
set_option maxRecDepth 100000 in
/-- the law's feed: the class answers -/
theorem c_L_feedG (l : Launch) (dC : Nat → ClassId) (dI : Nat → Nat → Nat) (cI cZ cL : ClassId) (h0 a1 o0 : Nat) (sz : Nat) (n0 r0 j0 p0 : Nat) (b : Int64) (j : Nat) (g : Nat → Int64) (hj : j < 9) (h1 : 0 < j) : Met l yL_feed (wh yL_feed cL_feed 6 (some .int) [(0, 11, 14, 13), (0, 11, 18, 15)]) ({ frames := 1, cells := 0, slots := 0, locals := 24 }) (va_Pc [.ref h0, .long b, .int (nI j), .ref o0] (hp dC dI cI cZ cL sz [(h0, .inr (6, [.ref a1, .int 0, .int (-1), .ref n0, .ref r0, .ref j0, .ref p0])), (a1, .inl (cI, 60, .inl zI)), (o0, .inl (cL, 1, .inr (.inl g)))])) (va_Qi (fun (r : Int32) (_ : Unit) => r = 0) (fun (_ : Unit) t => va_P (dC, dI) vwCl [(o0, .inl (cL, 1, .inr (.inl (vp_updL g 0 (Int32.toInt64 (nI j))))))] t.heap ∧ va_D (va_A [(h0, .inr (6, [.ref a1, .int 0, .int (-1), .ref n0, .ref r0, .ref j0, .ref p0])), (a1, .inl (cI, 60, .inl zI)), (o0, .inl (cL, 1, .inr (.inl g)))] sz) [(o0, .inl (cL, 1, .inr (.inl (vp_updL g 0 (Int32.toInt64 (nI j))))))]) (va_A [(h0, .inr (6, [.ref a1, .int 0, .int (-1), .ref n0, .ref r0, .ref j0, .ref p0])), (a1, .inl (cI, 60, .inl zI)), (o0, .inl (cL, 1, .inr (.inl g)))] sz)) 0 0 (va_A [(h0, .inr (6, [.ref a1, .int 0, .int (-1), .ref n0, .ref r0, .ref j0, .ref p0])), (a1, .inl (cI, 60, .inl zI)), (o0, .inl (cL, 1, .inr (.inl g)))] sz) := by
  refine va_MetW (cc := cL_feed) (maxL := 6) (ret := (some .int)) (hh := [(0, 11, 14, 13), (0, 11, 18, 15)]) (by decide) rfl ?_
  intro p e s m args below meth c s₁ B hml hv
  obtain ⟨rfl, hsz, hP, hK, hD0⟩ := hv
  have hx := B.exec
  have hb := B.bytes
  have hr := B.returns
  have hw9 := atoms_spec (ws := (wh yL_feed cL_feed 6 (some .int) [(0, 11, 14, 13), (0, 11, 18, 15)])) B.pre
  have hg := gw_hts hw9
  have hown : s.vm.findClass RL = some m.cls := findClass_of_methodNamed B.named
  have hlocks := B.notSynchronized
  have hct := vx_table (x := yL_feed) B (hw9 _ List.mem_cons_self)
  subst hsz
  have hD := hD0.self (sz := s.heap.size)
  generalize hAe : va_A [(h0, .inr (6, [.ref a1, .int 0, .int (-1), .ref n0, .ref r0, .ref j0, .ref p0])), (a1, .inl (cI, 60, .inl zI)), (o0, .inl (cL, 1, .inr (.inl g)))] s.heap.size = A at hD ⊢
  have hA : ∀ q : Nat, s.heap.size ≤ q → A q := fun q h => by rw [← hAe]; exact Or.inr h
  have hS : va_S A s.heap s.heap [] := va_S.rf
  have hl := lv_entry ([.ref h0, .long b, .int (nI j), .ref o0]) (n := 6) (Nat.le_of_ble_eq_true rfl)
  rw [lg_entry_eq]
  generalize (lg_sl ([.ref h0, .long b, .int (nI j), .ref o0]) ++ List.replicate (6 - (lg_sl ([.ref h0, .long b, .int (nI j), .ref o0])).length) Slot.unset).toArray = ls at hl ⊢
  have hl : lv_has ls 6 [(0, .ref h0), (1, .long b), (3, .int (nI j)), (4, .ref o0)] := hl
  refine lv_aload hx hb dL_feed_0 (lv_at hl 3 rfl) ?_
  refine lv_iconst (v := 0) hx hb dL_feed_2 (by decide) ?_
  refine lv_aload_n hx hb dL_feed_3 rfl (lv_at hl 0 rfl) ?_
  refine lv_lload_n hx hb dL_feed_4 rfl (lv_at hl 1 rfl) ?_
  refine lv_iload_n hx hb dL_feed_5 rfl (lv_at hl 2 rfl) ?_
  have hPc := hP.sub (ws' := [(h0, .inr (6, [.ref a1, .int 0, .int (-1), .ref n0, .ref r0, .ref j0, .ref p0])), (a1, .inl (cI, 60, .inl zI))]) [0, 1] rfl
  have hDc := hD.sub (ws' := [(h0, .inr (6, [.ref a1, .int 0, .int (-1), .ref n0, .ref r0, .ref j0, .ref p0])), (a1, .inl (cI, 60, .inl zI))]) [0, 1] (by decide) rfl
  have hFc := va_free (wc := [(h0, .inr (6, [.ref a1, .int 0, .int (-1), .ref n0, .ref r0, .ref j0, .ref p0])), (a1, .inl (cI, 60, .inl zI))]) hD hS hA [0, 1] rfl
  refine va_calli (va_runV (As := [.long b, .int (nI j)]) (rest := [.int 0, .ref o0]) ⟨hx, hb, hml, hown, hg⟩ (c_X6_feedG l dC dI cI cZ cL h0 a1 (Array.size _) n0 r0 j0 p0 b j hj h1) (cwV 2 hg (gw_V k_295 k_296 k_297 k_280 g_yX6_feed) rfl rfl rfl (by decide +kernel) ⟨(Nat.le_of_ble_eq_true rfl), (Nat.le_of_ble_eq_true rfl)⟩) ⟨hp_bl, va_recv hK hPc (ci := 6) (q0 := 0) rfl rfl, fun U hU hW => hp_ok hU hW hPc hK hDc⟩ rfl rfl hl.1 rfl (lv_room (Nat.le_of_ble_eq_true rfl)) dL_feed_6 ⟨(Nat.le_of_ble_eq_true rfl), (Nat.le_of_ble_eq_true rfl)⟩) hS (fun q _ h => hFc q h) hFc (fun r9 u t H locs ht hvm hw hB hz1 hk1 hS => ?_)
  obtain ⟨hP1, hD1⟩ := hB
  rw [ht] at hP1
  obtain ⟨hP, hD⟩ := va_join (wr := [(o0, .inl (cL, 1, .inr (.inl g)))]) (w1 := []) hP hD [0, 1] [2] rfl rfl (by decide) (by decide) hk1 hFc hP1 hD1
  have hP : va_P (dC, dI) vwCl [(o0, .inl (cL, 1, .inr (.inl g)))] H := hP
  have hD : va_D A [(o0, .inl (cL, 1, .inr (.inl g)))] := hD
  refine W.widen (k := 0) (n := 0) (Nat.le_of_ble_eq_true rfl) (Nat.le_of_ble_eq_true rfl) ?_
  obtain ⟨r1, rfl⟩ : ∃ z, z = r9 := ⟨_, rfl⟩
  have wr1 := hw
  obtain rfl : r1 = nI j := wr1
  refine lv_i2l hx hb dL_feed_9 rfl ?_
  refine lv_topl (fun z2 ez2 => ?_)
  obtain rfl : z2 = Int32.toInt64 (nI j) := ez2
  refine va_last hx hb hK hP hD hS 0 2 rfl rfl (vp_lit (by decide) (by decide)) dL_feed_10 (fun H locs hP hD hS => ?_)
  have hP : va_P (dC, dI) vwCl [(o0, .inl (cL, 1, .inr (.inl (vp_updL g 0 (Int32.toInt64 (nI j))))))] H := hP
  have hD : va_D A [(o0, .inl (cL, 1, .inr (.inl (vp_updL g 0 (Int32.toInt64 (nI j))))))] := hD
  refine lv_goto (tgt := 22) hx hb dL_feed_11 (by decide) ?_
  refine lv_iconst (v := 0) hx hb dL_feed_22 (by decide) ?_
  have hP9 := hP.sub (ws' := [(o0, .inl (cL, 1, .inr (.inl (vp_updL g 0 (Int32.toInt64 (nI j))))))]) [0] rfl
  have hD9 := hD.sub (ws' := [(o0, .inl (cL, 1, .inr (.inl (vp_updL g 0 (Int32.toInt64 (nI j))))))]) [0] (by decide) rfl
  refine W.widen (k := 0) (n := 0) (Nat.le_of_ble_eq_true rfl) (Nat.le_of_ble_eq_true rfl) ?_
  exact W.iret (v := 0) hx hb hr (fun t ht hW => ⟨⟨0, (), rfl, rfl, by rw [ht]; exact hP9, hD9⟩, hS.F ht⟩) hS.2.2 dL_feed_23

set_option maxHeartbeats 4000000 in
set_option maxRecDepth 100000 in
/-- the law's infer: the class throws -/
theorem c_L_infer (l : Launch) (dC : Nat → ClassId) (dI : Nat → Nat → Nat) (cI cZ cL : ClassId) (h0 a1 n0 b1 b2 b3 b4 b5 r0 a2 j0 x0 p0 o0 : Nat) (sz : Nat) (a3 j2 j3 j4 j5 c1 c2 p1 p2 : Nat) (g : Nat → Int64) (hst : l.stackTraces = false) : Met l yL_infer (wh yL_infer cL_infer 3 (some .int) [(0, 15, 18, 13)]) ({ frames := 7, cells := 1, slots := 6, locals := 109 }) (va_Pc [.ref h0, .ref o0] (hpx dC dI cI cZ cL sz [(h0, .inr (6, [.ref a1, .int 0, .int (-1), .ref n0, .ref r0, .ref j0, .ref p0])), (a1, .inl (cI, 60, .inl zI)), (n0, .inr (2, [.ref b1, .ref b2, .ref b3, .ref b4, .ref b5, .int 0])), (b1, .inl (cI, 4096, .inl zI)), (b2, .inl (cI, 4096, .inl zI)), (b3, .inl (cI, 4096, .inl zI)), (b4, .inl (cI, 4096, .inl zI)), (b5, .inl (cZ, 4096, .inl zI)), (r0, .inr (4, [.ref n0, .ref a1, .ref a2, .ref a3, .int 0, .int 0, .int 0, .int 0, .int (-1)])), (a2, .inl (cI, 26, .inl zI)), (j0, .inr (1, [.ref n0, .ref x0, .ref j2, .ref j3, .ref j4, .ref j5, .int 0, .int 0, .int (-1), .int 0, .int 0])), (x0, .inr (0, [.ref n0, .ref c1, .ref c2, .int 0])), (p0, .inr (3, [.ref n0, .ref p1, .ref p2, .int 0, .int (-1), .int 0])), (o0, .inl (cL, 1, .inr (.inl g)))])) (va_Qi (fun (r : Int32) (_ : Unit) => r = 1) (fun (_ : Unit) t => va_P (dC, dI) vwCl [(o0, .inl (cL, 1, .inr (.inl g)))] t.heap ∧ va_D (va_A [(h0, .inr (6, [.ref a1, .int 0, .int (-1), .ref n0, .ref r0, .ref j0, .ref p0])), (a1, .inl (cI, 60, .inl zI)), (n0, .inr (2, [.ref b1, .ref b2, .ref b3, .ref b4, .ref b5, .int 0])), (b1, .inl (cI, 4096, .inl zI)), (b2, .inl (cI, 4096, .inl zI)), (b3, .inl (cI, 4096, .inl zI)), (b4, .inl (cI, 4096, .inl zI)), (b5, .inl (cZ, 4096, .inl zI)), (r0, .inr (4, [.ref n0, .ref a1, .ref a2, .ref a3, .int 0, .int 0, .int 0, .int 0, .int (-1)])), (a2, .inl (cI, 26, .inl zI)), (j0, .inr (1, [.ref n0, .ref x0, .ref j2, .ref j3, .ref j4, .ref j5, .int 0, .int 0, .int (-1), .int 0, .int 0])), (x0, .inr (0, [.ref n0, .ref c1, .ref c2, .int 0])), (p0, .inr (3, [.ref n0, .ref p1, .ref p2, .int 0, .int (-1), .int 0])), (o0, .inl (cL, 1, .inr (.inl g)))] sz) [(o0, .inl (cL, 1, .inr (.inl g)))]) (va_A [(h0, .inr (6, [.ref a1, .int 0, .int (-1), .ref n0, .ref r0, .ref j0, .ref p0])), (a1, .inl (cI, 60, .inl zI)), (n0, .inr (2, [.ref b1, .ref b2, .ref b3, .ref b4, .ref b5, .int 0])), (b1, .inl (cI, 4096, .inl zI)), (b2, .inl (cI, 4096, .inl zI)), (b3, .inl (cI, 4096, .inl zI)), (b4, .inl (cI, 4096, .inl zI)), (b5, .inl (cZ, 4096, .inl zI)), (r0, .inr (4, [.ref n0, .ref a1, .ref a2, .ref a3, .int 0, .int 0, .int 0, .int 0, .int (-1)])), (a2, .inl (cI, 26, .inl zI)), (j0, .inr (1, [.ref n0, .ref x0, .ref j2, .ref j3, .ref j4, .ref j5, .int 0, .int 0, .int (-1), .int 0, .int 0])), (x0, .inr (0, [.ref n0, .ref c1, .ref c2, .int 0])), (p0, .inr (3, [.ref n0, .ref p1, .ref p2, .int 0, .int (-1), .int 0])), (o0, .inl (cL, 1, .inr (.inl g)))] sz)) 1 6 (va_A [(h0, .inr (6, [.ref a1, .int 0, .int (-1), .ref n0, .ref r0, .ref j0, .ref p0])), (a1, .inl (cI, 60, .inl zI)), (n0, .inr (2, [.ref b1, .ref b2, .ref b3, .ref b4, .ref b5, .int 0])), (b1, .inl (cI, 4096, .inl zI)), (b2, .inl (cI, 4096, .inl zI)), (b3, .inl (cI, 4096, .inl zI)), (b4, .inl (cI, 4096, .inl zI)), (b5, .inl (cZ, 4096, .inl zI)), (r0, .inr (4, [.ref n0, .ref a1, .ref a2, .ref a3, .int 0, .int 0, .int 0, .int 0, .int (-1)])), (a2, .inl (cI, 26, .inl zI)), (j0, .inr (1, [.ref n0, .ref x0, .ref j2, .ref j3, .ref j4, .ref j5, .int 0, .int 0, .int (-1), .int 0, .int 0])), (x0, .inr (0, [.ref n0, .ref c1, .ref c2, .int 0])), (p0, .inr (3, [.ref n0, .ref p1, .ref p2, .int 0, .int (-1), .int 0])), (o0, .inl (cL, 1, .inr (.inl g)))] sz) := by
  refine va_MetW (cc := cL_infer) (maxL := 3) (ret := (some .int)) (hh := [(0, 15, 18, 13)]) (by decide) rfl ?_
  intro p e s m args below meth c s₁ B hml hv
  obtain ⟨rfl, hsz, hP, hK, hD0, hE0⟩ := hv
  have hx := B.exec
  have hb := B.bytes
  have hr := B.returns
  have hw9 := atoms_spec (ws := (wh yL_infer cL_infer 3 (some .int) [(0, 15, 18, 13)])) B.pre
  have hg := gw_hts hw9
  have hown : s.vm.findClass RL = some m.cls := findClass_of_methodNamed B.named
  have hlocks := B.notSynchronized
  have hct := vx_table (x := yL_infer) B (hw9 _ List.mem_cons_self)
  subst hsz
  have hD := hD0.self (sz := s.heap.size)
  have hE := hE0
  generalize hAe : va_A [(h0, .inr (6, [.ref a1, .int 0, .int (-1), .ref n0, .ref r0, .ref j0, .ref p0])), (a1, .inl (cI, 60, .inl zI)), (n0, .inr (2, [.ref b1, .ref b2, .ref b3, .ref b4, .ref b5, .int 0])), (b1, .inl (cI, 4096, .inl zI)), (b2, .inl (cI, 4096, .inl zI)), (b3, .inl (cI, 4096, .inl zI)), (b4, .inl (cI, 4096, .inl zI)), (b5, .inl (cZ, 4096, .inl zI)), (r0, .inr (4, [.ref n0, .ref a1, .ref a2, .ref a3, .int 0, .int 0, .int 0, .int 0, .int (-1)])), (a2, .inl (cI, 26, .inl zI)), (j0, .inr (1, [.ref n0, .ref x0, .ref j2, .ref j3, .ref j4, .ref j5, .int 0, .int 0, .int (-1), .int 0, .int 0])), (x0, .inr (0, [.ref n0, .ref c1, .ref c2, .int 0])), (p0, .inr (3, [.ref n0, .ref p1, .ref p2, .int 0, .int (-1), .int 0])), (o0, .inl (cL, 1, .inr (.inl g)))] s.heap.size = A at hD hE ⊢
  have hA : ∀ q : Nat, s.heap.size ≤ q → A q := fun q h => by rw [← hAe]; exact Or.inr h
  have hS : va_S A s.heap s.heap [] := va_S.rf
  have hl := lv_entry ([.ref h0, .ref o0]) (n := 3) (Nat.le_of_ble_eq_true rfl)
  rw [lg_entry_eq]
  generalize (lg_sl ([.ref h0, .ref o0]) ++ List.replicate (3 - (lg_sl ([.ref h0, .ref o0])).length) Slot.unset).toArray = ls at hl ⊢
  have hl : lv_has ls 3 [(0, .ref h0), (1, .ref o0)] := hl
  refine lv_aload_n hx hb dL_infer_0 rfl (lv_at hl 1 rfl) ?_
  refine lv_iconst (v := 0) hx hb dL_infer_1 (by decide) ?_
  refine lv_aload_n hx hb dL_infer_2 rfl (lv_at hl 0 rfl) ?_
  have hPc := hP.sub (ws' := [(h0, .inr (6, [.ref a1, .int 0, .int (-1), .ref n0, .ref r0, .ref j0, .ref p0])), (a1, .inl (cI, 60, .inl zI)), (n0, .inr (2, [.ref b1, .ref b2, .ref b3, .ref b4, .ref b5, .int 0])), (b1, .inl (cI, 4096, .inl zI)), (b2, .inl (cI, 4096, .inl zI)), (b3, .inl (cI, 4096, .inl zI)), (b4, .inl (cI, 4096, .inl zI)), (b5, .inl (cZ, 4096, .inl zI)), (r0, .inr (4, [.ref n0, .ref a1, .ref a2, .ref a3, .int 0, .int 0, .int 0, .int 0, .int (-1)])), (a2, .inl (cI, 26, .inl zI)), (j0, .inr (1, [.ref n0, .ref x0, .ref j2, .ref j3, .ref j4, .ref j5, .int 0, .int 0, .int (-1), .int 0, .int 0])), (x0, .inr (0, [.ref n0, .ref c1, .ref c2, .int 0])), (p0, .inr (3, [.ref n0, .ref p1, .ref p2, .int 0, .int (-1), .int 0]))]) [0, 1, 2, 3, 4, 5, 6, 7, 8, 9, 10, 11, 12] rfl
  have hDc := hD.sub (ws' := [(h0, .inr (6, [.ref a1, .int 0, .int (-1), .ref n0, .ref r0, .ref j0, .ref p0])), (a1, .inl (cI, 60, .inl zI)), (n0, .inr (2, [.ref b1, .ref b2, .ref b3, .ref b4, .ref b5, .int 0])), (b1, .inl (cI, 4096, .inl zI)), (b2, .inl (cI, 4096, .inl zI)), (b3, .inl (cI, 4096, .inl zI)), (b4, .inl (cI, 4096, .inl zI)), (b5, .inl (cZ, 4096, .inl zI)), (r0, .inr (4, [.ref n0, .ref a1, .ref a2, .ref a3, .int 0, .int 0, .int 0, .int 0, .int (-1)])), (a2, .inl (cI, 26, .inl zI)), (j0, .inr (1, [.ref n0, .ref x0, .ref j2, .ref j3, .ref j4, .ref j5, .int 0, .int 0, .int (-1), .int 0, .int 0])), (x0, .inr (0, [.ref n0, .ref c1, .ref c2, .int 0])), (p0, .inr (3, [.ref n0, .ref p1, .ref p2, .int 0, .int (-1), .int 0]))]) [0, 1, 2, 3, 4, 5, 6, 7, 8, 9, 10, 11, 12] (by decide) rfl
  have hFc := va_free (wc := [(h0, .inr (6, [.ref a1, .int 0, .int (-1), .ref n0, .ref r0, .ref j0, .ref p0])), (a1, .inl (cI, 60, .inl zI)), (n0, .inr (2, [.ref b1, .ref b2, .ref b3, .ref b4, .ref b5, .int 0])), (b1, .inl (cI, 4096, .inl zI)), (b2, .inl (cI, 4096, .inl zI)), (b3, .inl (cI, 4096, .inl zI)), (b4, .inl (cI, 4096, .inl zI)), (b5, .inl (cZ, 4096, .inl zI)), (r0, .inr (4, [.ref n0, .ref a1, .ref a2, .ref a3, .int 0, .int 0, .int 0, .int 0, .int (-1)])), (a2, .inl (cI, 26, .inl zI)), (j0, .inr (1, [.ref n0, .ref x0, .ref j2, .ref j3, .ref j4, .ref j5, .int 0, .int 0, .int (-1), .int 0, .int 0])), (x0, .inr (0, [.ref n0, .ref c1, .ref c2, .int 0])), (p0, .inr (3, [.ref n0, .ref p1, .ref p2, .int 0, .int (-1), .int 0]))]) hD hS hA [0, 1, 2, 3, 4, 5, 6, 7, 8, 9, 10, 11, 12] rfl
  refine vx_calli (vx_runV (As := []) (rest := [.int 0, .ref o0]) ⟨hx, hb, hml, hown, hg⟩ (c_X6_infer l dC dI cI cZ cL h0 a1 n0 b1 b2 b3 b4 b5 r0 a2 j0 x0 p0 (Array.size _) a3 j2 j3 j4 j5 c1 c2 p1 p2 hst) (cwV 0 hg (gw_V k_299 k_300 k_301 k_280 g_yX6_infer) rfl rfl rfl (by decide +kernel) ⟨(Nat.le_of_ble_eq_true rfl), (Nat.le_of_ble_eq_true rfl)⟩) ⟨hpx_bl, va_recv hK hPc (ci := 6) (q0 := 0) rfl rfl, fun U hU hW => hpx_ok hU hW hPc hK hDc hE hS hFc⟩ rfl rfl hl.1 rfl (lv_room (Nat.le_of_ble_eq_true rfl)) dL_infer_3 ⟨(Nat.le_of_ble_eq_true rfl), (Nat.le_of_ble_eq_true rfl)⟩) hS (fun q _ h => hFc q h) hFc (fun q _ h => hFc q h) (fun E9 ce9 q9 u t H locs ht hvm hw hB hz1 hk1 hS hce hcv hcl => ?_) (fun r9 u t H locs ht hvm hw hB hz1 hk1 hS => hw.elim)
  obtain rfl := hB
  obtain ⟨hP, hD⟩ := va_join (wr := [(o0, .inl (cL, 1, .inr (.inl g)))]) (w1 := []) hP hD [0, 1, 2, 3, 4, 5, 6, 7, 8, 9, 10, 11, 12] [13] rfl rfl (by decide) (by decide) hk1 hFc nil_P nil_D
  have hP : va_P (dC, dI) vwCl [(o0, .inl (cL, 1, .inr (.inl g)))] H := hP
  have hD : va_D A [(o0, .inl (cL, 1, .inr (.inl g)))] := hD
  refine vx_widen (k := 1) (n := 6) (Nat.le_of_ble_eq_true rfl) (Nat.le_of_ble_eq_true rfl) ?_
  refine ct_catch (own := RL) (name := "java/lang/IllegalArgumentException") hown _ _ hct (by decide) (by decide) (hg _ k_298) (va_Nw.use rfl hE.1) hce hcv hcl ?_
  refine W.eq (g2 := F0 m 18 ls [.ref q9]) rfl ?_
  refine lv_astore_n (lv' := [(2, .ref q9), (0, .ref h0), (1, .ref o0)]) hx hb dL_infer_18 rfl hl (by decide) rfl (fun ls hl => ?_)
  refine lv_iconst (v := 1) hx hb dL_infer_19 (by decide) ?_
  have hP9 := hP.sub (ws' := [(o0, .inl (cL, 1, .inr (.inl g)))]) [0] rfl
  have hD9 := hD.sub (ws' := [(o0, .inl (cL, 1, .inr (.inl g)))]) [0] (by decide) rfl
  refine W.widen (k := 1) (n := 6) (Nat.le_of_ble_eq_true rfl) (Nat.le_of_ble_eq_true rfl) ?_
  exact W.iret (v := 1) hx hb hr (fun t ht hW => ⟨⟨1, (), rfl, rfl, by rw [ht]; exact hP9, hD9⟩, hS.F ht⟩) hS.2.2 dL_infer_20

set_option maxHeartbeats 4000000 in
set_option maxRecDepth 100000 in
/-- the law's below: the class throws -/
theorem c_L_below (l : Launch) (dC : Nat → ClassId) (dI : Nat → Nat → Nat) (cI cZ cL : ClassId) (h0 a1 n0 b1 b2 b3 b4 b5 r0 a2 j0 x0 p0 o0 : Nat) (sz : Nat) (a3 j2 j3 j4 j5 c1 c2 p1 p2 : Nat) (g : Nat → Int64) (hst : l.stackTraces = false) : Met l yL_below (wh yL_below cL_below 3 (some .int) [(0, 15, 18, 13)]) ({ frames := 7, cells := 1, slots := 6, locals := 108 }) (va_Pc [.ref h0, .ref o0] (hpx dC dI cI cZ cL sz [(h0, .inr (6, [.ref a1, .int 0, .int (-1), .ref n0, .ref r0, .ref j0, .ref p0])), (a1, .inl (cI, 60, .inl zI)), (n0, .inr (2, [.ref b1, .ref b2, .ref b3, .ref b4, .ref b5, .int 0])), (b1, .inl (cI, 4096, .inl zI)), (b2, .inl (cI, 4096, .inl zI)), (b3, .inl (cI, 4096, .inl zI)), (b4, .inl (cI, 4096, .inl zI)), (b5, .inl (cZ, 4096, .inl zI)), (r0, .inr (4, [.ref n0, .ref a1, .ref a2, .ref a3, .int 0, .int 0, .int 0, .int 0, .int (-1)])), (a2, .inl (cI, 26, .inl zI)), (j0, .inr (1, [.ref n0, .ref x0, .ref j2, .ref j3, .ref j4, .ref j5, .int 0, .int 0, .int (-1), .int 0, .int 0])), (x0, .inr (0, [.ref n0, .ref c1, .ref c2, .int 0])), (p0, .inr (3, [.ref n0, .ref p1, .ref p2, .int 0, .int (-1), .int 0])), (o0, .inl (cL, 1, .inr (.inl g)))])) (va_Qi (fun (r : Int32) (_ : Unit) => r = 1) (fun (_ : Unit) t => va_P (dC, dI) vwCl [(o0, .inl (cL, 1, .inr (.inl g)))] t.heap ∧ va_D (va_A [(h0, .inr (6, [.ref a1, .int 0, .int (-1), .ref n0, .ref r0, .ref j0, .ref p0])), (a1, .inl (cI, 60, .inl zI)), (n0, .inr (2, [.ref b1, .ref b2, .ref b3, .ref b4, .ref b5, .int 0])), (b1, .inl (cI, 4096, .inl zI)), (b2, .inl (cI, 4096, .inl zI)), (b3, .inl (cI, 4096, .inl zI)), (b4, .inl (cI, 4096, .inl zI)), (b5, .inl (cZ, 4096, .inl zI)), (r0, .inr (4, [.ref n0, .ref a1, .ref a2, .ref a3, .int 0, .int 0, .int 0, .int 0, .int (-1)])), (a2, .inl (cI, 26, .inl zI)), (j0, .inr (1, [.ref n0, .ref x0, .ref j2, .ref j3, .ref j4, .ref j5, .int 0, .int 0, .int (-1), .int 0, .int 0])), (x0, .inr (0, [.ref n0, .ref c1, .ref c2, .int 0])), (p0, .inr (3, [.ref n0, .ref p1, .ref p2, .int 0, .int (-1), .int 0])), (o0, .inl (cL, 1, .inr (.inl g)))] sz) [(o0, .inl (cL, 1, .inr (.inl g)))]) (va_A [(h0, .inr (6, [.ref a1, .int 0, .int (-1), .ref n0, .ref r0, .ref j0, .ref p0])), (a1, .inl (cI, 60, .inl zI)), (n0, .inr (2, [.ref b1, .ref b2, .ref b3, .ref b4, .ref b5, .int 0])), (b1, .inl (cI, 4096, .inl zI)), (b2, .inl (cI, 4096, .inl zI)), (b3, .inl (cI, 4096, .inl zI)), (b4, .inl (cI, 4096, .inl zI)), (b5, .inl (cZ, 4096, .inl zI)), (r0, .inr (4, [.ref n0, .ref a1, .ref a2, .ref a3, .int 0, .int 0, .int 0, .int 0, .int (-1)])), (a2, .inl (cI, 26, .inl zI)), (j0, .inr (1, [.ref n0, .ref x0, .ref j2, .ref j3, .ref j4, .ref j5, .int 0, .int 0, .int (-1), .int 0, .int 0])), (x0, .inr (0, [.ref n0, .ref c1, .ref c2, .int 0])), (p0, .inr (3, [.ref n0, .ref p1, .ref p2, .int 0, .int (-1), .int 0])), (o0, .inl (cL, 1, .inr (.inl g)))] sz)) 1 6 (va_A [(h0, .inr (6, [.ref a1, .int 0, .int (-1), .ref n0, .ref r0, .ref j0, .ref p0])), (a1, .inl (cI, 60, .inl zI)), (n0, .inr (2, [.ref b1, .ref b2, .ref b3, .ref b4, .ref b5, .int 0])), (b1, .inl (cI, 4096, .inl zI)), (b2, .inl (cI, 4096, .inl zI)), (b3, .inl (cI, 4096, .inl zI)), (b4, .inl (cI, 4096, .inl zI)), (b5, .inl (cZ, 4096, .inl zI)), (r0, .inr (4, [.ref n0, .ref a1, .ref a2, .ref a3, .int 0, .int 0, .int 0, .int 0, .int (-1)])), (a2, .inl (cI, 26, .inl zI)), (j0, .inr (1, [.ref n0, .ref x0, .ref j2, .ref j3, .ref j4, .ref j5, .int 0, .int 0, .int (-1), .int 0, .int 0])), (x0, .inr (0, [.ref n0, .ref c1, .ref c2, .int 0])), (p0, .inr (3, [.ref n0, .ref p1, .ref p2, .int 0, .int (-1), .int 0])), (o0, .inl (cL, 1, .inr (.inl g)))] sz) := by
  refine va_MetW (cc := cL_below) (maxL := 3) (ret := (some .int)) (hh := [(0, 15, 18, 13)]) (by decide) rfl ?_
  intro p e s m args below meth c s₁ B hml hv
  obtain ⟨rfl, hsz, hP, hK, hD0, hE0⟩ := hv
  have hx := B.exec
  have hb := B.bytes
  have hr := B.returns
  have hw9 := atoms_spec (ws := (wh yL_below cL_below 3 (some .int) [(0, 15, 18, 13)])) B.pre
  have hg := gw_hts hw9
  have hown : s.vm.findClass RL = some m.cls := findClass_of_methodNamed B.named
  have hlocks := B.notSynchronized
  have hct := vx_table (x := yL_below) B (hw9 _ List.mem_cons_self)
  subst hsz
  have hD := hD0.self (sz := s.heap.size)
  have hE := hE0
  generalize hAe : va_A [(h0, .inr (6, [.ref a1, .int 0, .int (-1), .ref n0, .ref r0, .ref j0, .ref p0])), (a1, .inl (cI, 60, .inl zI)), (n0, .inr (2, [.ref b1, .ref b2, .ref b3, .ref b4, .ref b5, .int 0])), (b1, .inl (cI, 4096, .inl zI)), (b2, .inl (cI, 4096, .inl zI)), (b3, .inl (cI, 4096, .inl zI)), (b4, .inl (cI, 4096, .inl zI)), (b5, .inl (cZ, 4096, .inl zI)), (r0, .inr (4, [.ref n0, .ref a1, .ref a2, .ref a3, .int 0, .int 0, .int 0, .int 0, .int (-1)])), (a2, .inl (cI, 26, .inl zI)), (j0, .inr (1, [.ref n0, .ref x0, .ref j2, .ref j3, .ref j4, .ref j5, .int 0, .int 0, .int (-1), .int 0, .int 0])), (x0, .inr (0, [.ref n0, .ref c1, .ref c2, .int 0])), (p0, .inr (3, [.ref n0, .ref p1, .ref p2, .int 0, .int (-1), .int 0])), (o0, .inl (cL, 1, .inr (.inl g)))] s.heap.size = A at hD hE ⊢
  have hA : ∀ q : Nat, s.heap.size ≤ q → A q := fun q h => by rw [← hAe]; exact Or.inr h
  have hS : va_S A s.heap s.heap [] := va_S.rf
  have hl := lv_entry ([.ref h0, .ref o0]) (n := 3) (Nat.le_of_ble_eq_true rfl)
  rw [lg_entry_eq]
  generalize (lg_sl ([.ref h0, .ref o0]) ++ List.replicate (3 - (lg_sl ([.ref h0, .ref o0])).length) Slot.unset).toArray = ls at hl ⊢
  have hl : lv_has ls 3 [(0, .ref h0), (1, .ref o0)] := hl
  refine lv_aload_n hx hb dL_below_0 rfl (lv_at hl 1 rfl) ?_
  refine lv_iconst (v := 0) hx hb dL_below_1 (by decide) ?_
  refine lv_aload_n hx hb dL_below_2 rfl (lv_at hl 0 rfl) ?_
  have hPc := hP.sub (ws' := [(h0, .inr (6, [.ref a1, .int 0, .int (-1), .ref n0, .ref r0, .ref j0, .ref p0])), (a1, .inl (cI, 60, .inl zI)), (n0, .inr (2, [.ref b1, .ref b2, .ref b3, .ref b4, .ref b5, .int 0])), (b1, .inl (cI, 4096, .inl zI)), (b2, .inl (cI, 4096, .inl zI)), (b3, .inl (cI, 4096, .inl zI)), (b4, .inl (cI, 4096, .inl zI)), (b5, .inl (cZ, 4096, .inl zI)), (r0, .inr (4, [.ref n0, .ref a1, .ref a2, .ref a3, .int 0, .int 0, .int 0, .int 0, .int (-1)])), (a2, .inl (cI, 26, .inl zI)), (j0, .inr (1, [.ref n0, .ref x0, .ref j2, .ref j3, .ref j4, .ref j5, .int 0, .int 0, .int (-1), .int 0, .int 0])), (x0, .inr (0, [.ref n0, .ref c1, .ref c2, .int 0])), (p0, .inr (3, [.ref n0, .ref p1, .ref p2, .int 0, .int (-1), .int 0]))]) [0, 1, 2, 3, 4, 5, 6, 7, 8, 9, 10, 11, 12] rfl
  have hDc := hD.sub (ws' := [(h0, .inr (6, [.ref a1, .int 0, .int (-1), .ref n0, .ref r0, .ref j0, .ref p0])), (a1, .inl (cI, 60, .inl zI)), (n0, .inr (2, [.ref b1, .ref b2, .ref b3, .ref b4, .ref b5, .int 0])), (b1, .inl (cI, 4096, .inl zI)), (b2, .inl (cI, 4096, .inl zI)), (b3, .inl (cI, 4096, .inl zI)), (b4, .inl (cI, 4096, .inl zI)), (b5, .inl (cZ, 4096, .inl zI)), (r0, .inr (4, [.ref n0, .ref a1, .ref a2, .ref a3, .int 0, .int 0, .int 0, .int 0, .int (-1)])), (a2, .inl (cI, 26, .inl zI)), (j0, .inr (1, [.ref n0, .ref x0, .ref j2, .ref j3, .ref j4, .ref j5, .int 0, .int 0, .int (-1), .int 0, .int 0])), (x0, .inr (0, [.ref n0, .ref c1, .ref c2, .int 0])), (p0, .inr (3, [.ref n0, .ref p1, .ref p2, .int 0, .int (-1), .int 0]))]) [0, 1, 2, 3, 4, 5, 6, 7, 8, 9, 10, 11, 12] (by decide) rfl
  have hFc := va_free (wc := [(h0, .inr (6, [.ref a1, .int 0, .int (-1), .ref n0, .ref r0, .ref j0, .ref p0])), (a1, .inl (cI, 60, .inl zI)), (n0, .inr (2, [.ref b1, .ref b2, .ref b3, .ref b4, .ref b5, .int 0])), (b1, .inl (cI, 4096, .inl zI)), (b2, .inl (cI, 4096, .inl zI)), (b3, .inl (cI, 4096, .inl zI)), (b4, .inl (cI, 4096, .inl zI)), (b5, .inl (cZ, 4096, .inl zI)), (r0, .inr (4, [.ref n0, .ref a1, .ref a2, .ref a3, .int 0, .int 0, .int 0, .int 0, .int (-1)])), (a2, .inl (cI, 26, .inl zI)), (j0, .inr (1, [.ref n0, .ref x0, .ref j2, .ref j3, .ref j4, .ref j5, .int 0, .int 0, .int (-1), .int 0, .int 0])), (x0, .inr (0, [.ref n0, .ref c1, .ref c2, .int 0])), (p0, .inr (3, [.ref n0, .ref p1, .ref p2, .int 0, .int (-1), .int 0]))]) hD hS hA [0, 1, 2, 3, 4, 5, 6, 7, 8, 9, 10, 11, 12] rfl
  refine vx_calli (vx_runV (As := []) (rest := [.int 0, .ref o0]) ⟨hx, hb, hml, hown, hg⟩ (c_X6_below l dC dI cI cZ cL h0 a1 n0 b1 b2 b3 b4 b5 r0 a2 j0 x0 p0 (Array.size _) a3 j2 j3 j4 j5 c1 c2 p1 p2 hst) (cwV 0 hg (gw_V k_302 k_303 k_304 k_280 g_yX6_below) rfl rfl rfl (by decide +kernel) ⟨(Nat.le_of_ble_eq_true rfl), (Nat.le_of_ble_eq_true rfl)⟩) ⟨hpx_bl, va_recv hK hPc (ci := 6) (q0 := 0) rfl rfl, fun U hU hW => hpx_ok hU hW hPc hK hDc hE hS hFc⟩ rfl rfl hl.1 rfl (lv_room (Nat.le_of_ble_eq_true rfl)) dL_below_3 ⟨(Nat.le_of_ble_eq_true rfl), (Nat.le_of_ble_eq_true rfl)⟩) hS (fun q _ h => hFc q h) hFc (fun q _ h => hFc q h) (fun E9 ce9 q9 u t H locs ht hvm hw hB hz1 hk1 hS hce hcv hcl => ?_) (fun r9 u t H locs ht hvm hw hB hz1 hk1 hS => hw.elim)
  obtain rfl := hB
  obtain ⟨hP, hD⟩ := va_join (wr := [(o0, .inl (cL, 1, .inr (.inl g)))]) (w1 := []) hP hD [0, 1, 2, 3, 4, 5, 6, 7, 8, 9, 10, 11, 12] [13] rfl rfl (by decide) (by decide) hk1 hFc nil_P nil_D
  have hP : va_P (dC, dI) vwCl [(o0, .inl (cL, 1, .inr (.inl g)))] H := hP
  have hD : va_D A [(o0, .inl (cL, 1, .inr (.inl g)))] := hD
  refine vx_widen (k := 1) (n := 6) (Nat.le_of_ble_eq_true rfl) (Nat.le_of_ble_eq_true rfl) ?_
  refine ct_catch (own := RL) (name := "java/lang/IllegalArgumentException") hown _ _ hct (by decide) (by decide) (hg _ k_298) (va_Nw.use rfl hE.1) hce hcv hcl ?_
  refine W.eq (g2 := F0 m 18 ls [.ref q9]) rfl ?_
  refine lv_astore_n (lv' := [(2, .ref q9), (0, .ref h0), (1, .ref o0)]) hx hb dL_below_18 rfl hl (by decide) rfl (fun ls hl => ?_)
  refine lv_iconst (v := 1) hx hb dL_below_19 (by decide) ?_
  have hP9 := hP.sub (ws' := [(o0, .inl (cL, 1, .inr (.inl g)))]) [0] rfl
  have hD9 := hD.sub (ws' := [(o0, .inl (cL, 1, .inr (.inl g)))]) [0] (by decide) rfl
  refine W.widen (k := 1) (n := 6) (Nat.le_of_ble_eq_true rfl) (Nat.le_of_ble_eq_true rfl) ?_
  exact W.iret (v := 1) hx hb hr (fun t ht hW => ⟨⟨1, (), rfl, rfl, by rw [ht]; exact hP9, hD9⟩, hS.F ht⟩) hS.2.2 dL_below_20

set_option maxHeartbeats 4000000 in
set_option maxRecDepth 100000 in
/-- the law's out: the class throws -/
theorem c_L_outN (l : Launch) (dC : Nat → ClassId) (dI : Nat → Nat → Nat) (cI cZ cL : ClassId) (h0 p0 n0 o0 : Nat) (sz : Nat) (r0 j0 a1 p1 p2 b1 b2 b3 b4 b5 : Nat) (x : Int32) (g : Nat → Int64) (hst : l.stackTraces = false) (hn : x < 0) : Met l yL_out (wh yL_out cL_out 4 (some .int) [(0, 9, 12, 28)]) ({ frames := 7, cells := 1, slots := 6, locals := 103 }) (va_Pc [.ref h0, .int x, .ref o0] (hpx dC dI cI cZ cL sz [(h0, .inr (6, [.ref a1, .int 0, .int (-1), .ref n0, .ref r0, .ref j0, .ref p0])), (p0, .inr (3, [.ref n0, .ref p1, .ref p2, .int 0, .int (-1), .int 0])), (n0, .inr (2, [.ref b1, .ref b2, .ref b3, .ref b4, .ref b5, .int 0])), (o0, .inl (cL, 1, .inr (.inl g)))])) (va_Qi (fun (r : Int32) (_ : Unit) => r = 1) (fun (_ : Unit) t => va_P (dC, dI) vwCl [(o0, .inl (cL, 1, .inr (.inl g)))] t.heap ∧ va_D (va_A [(h0, .inr (6, [.ref a1, .int 0, .int (-1), .ref n0, .ref r0, .ref j0, .ref p0])), (p0, .inr (3, [.ref n0, .ref p1, .ref p2, .int 0, .int (-1), .int 0])), (n0, .inr (2, [.ref b1, .ref b2, .ref b3, .ref b4, .ref b5, .int 0])), (o0, .inl (cL, 1, .inr (.inl g)))] sz) [(o0, .inl (cL, 1, .inr (.inl g)))]) (va_A [(h0, .inr (6, [.ref a1, .int 0, .int (-1), .ref n0, .ref r0, .ref j0, .ref p0])), (p0, .inr (3, [.ref n0, .ref p1, .ref p2, .int 0, .int (-1), .int 0])), (n0, .inr (2, [.ref b1, .ref b2, .ref b3, .ref b4, .ref b5, .int 0])), (o0, .inl (cL, 1, .inr (.inl g)))] sz)) 1 6 (va_A [(h0, .inr (6, [.ref a1, .int 0, .int (-1), .ref n0, .ref r0, .ref j0, .ref p0])), (p0, .inr (3, [.ref n0, .ref p1, .ref p2, .int 0, .int (-1), .int 0])), (n0, .inr (2, [.ref b1, .ref b2, .ref b3, .ref b4, .ref b5, .int 0])), (o0, .inl (cL, 1, .inr (.inl g)))] sz) := by
  refine va_MetW (cc := cL_out) (maxL := 4) (ret := (some .int)) (hh := [(0, 9, 12, 28)]) (by decide) rfl ?_
  intro p e s m args below meth c s₁ B hml hv
  obtain ⟨rfl, hsz, hP, hK, hD0, hE0⟩ := hv
  have hx := B.exec
  have hb := B.bytes
  have hr := B.returns
  have hw9 := atoms_spec (ws := (wh yL_out cL_out 4 (some .int) [(0, 9, 12, 28)])) B.pre
  have hg := gw_hts hw9
  have hown : s.vm.findClass RL = some m.cls := findClass_of_methodNamed B.named
  have hlocks := B.notSynchronized
  have hct := vx_table (x := yL_out) B (hw9 _ List.mem_cons_self)
  subst hsz
  have hD := hD0.self (sz := s.heap.size)
  have hE := hE0
  generalize hAe : va_A [(h0, .inr (6, [.ref a1, .int 0, .int (-1), .ref n0, .ref r0, .ref j0, .ref p0])), (p0, .inr (3, [.ref n0, .ref p1, .ref p2, .int 0, .int (-1), .int 0])), (n0, .inr (2, [.ref b1, .ref b2, .ref b3, .ref b4, .ref b5, .int 0])), (o0, .inl (cL, 1, .inr (.inl g)))] s.heap.size = A at hD hE ⊢
  have hA : ∀ q : Nat, s.heap.size ≤ q → A q := fun q h => by rw [← hAe]; exact Or.inr h
  have hS : va_S A s.heap s.heap [] := va_S.rf
  have hl := lv_entry ([.ref h0, .int x, .ref o0]) (n := 4) (Nat.le_of_ble_eq_true rfl)
  rw [lg_entry_eq]
  generalize (lg_sl ([.ref h0, .int x, .ref o0]) ++ List.replicate (4 - (lg_sl ([.ref h0, .int x, .ref o0])).length) Slot.unset).toArray = ls at hl ⊢
  have hl : lv_has ls 4 [(0, .ref h0), (1, .int x), (2, .ref o0)] := hl
  refine lv_aload_n hx hb dL_out_0 rfl (lv_at hl 2 rfl) ?_
  refine lv_iconst (v := 0) hx hb dL_out_1 (by decide) ?_
  refine lv_aload_n hx hb dL_out_2 rfl (lv_at hl 0 rfl) ?_
  refine lv_iload_n hx hb dL_out_3 rfl (lv_at hl 1 rfl) ?_
  have hPc := hP.sub (ws' := [(h0, .inr (6, [.ref a1, .int 0, .int (-1), .ref n0, .ref r0, .ref j0, .ref p0])), (p0, .inr (3, [.ref n0, .ref p1, .ref p2, .int 0, .int (-1), .int 0])), (n0, .inr (2, [.ref b1, .ref b2, .ref b3, .ref b4, .ref b5, .int 0]))]) [0, 1, 2] rfl
  have hDc := hD.sub (ws' := [(h0, .inr (6, [.ref a1, .int 0, .int (-1), .ref n0, .ref r0, .ref j0, .ref p0])), (p0, .inr (3, [.ref n0, .ref p1, .ref p2, .int 0, .int (-1), .int 0])), (n0, .inr (2, [.ref b1, .ref b2, .ref b3, .ref b4, .ref b5, .int 0]))]) [0, 1, 2] (by decide) rfl
  have hFc := va_free (wc := [(h0, .inr (6, [.ref a1, .int 0, .int (-1), .ref n0, .ref r0, .ref j0, .ref p0])), (p0, .inr (3, [.ref n0, .ref p1, .ref p2, .int 0, .int (-1), .int 0])), (n0, .inr (2, [.ref b1, .ref b2, .ref b3, .ref b4, .ref b5, .int 0]))]) hD hS hA [0, 1, 2] rfl
  refine vx_calli (vx_runV (As := [.int x]) (rest := [.int 0, .ref o0]) ⟨hx, hb, hml, hown, hg⟩ (c_X6_outN l dC dI cI cZ cL h0 p0 n0 (Array.size _) r0 j0 a1 p1 p2 b1 b2 b3 b4 b5 x hst hn) (cwV 1 hg (gw_V k_305 k_306 k_307 k_280 g_yX6_out) rfl rfl rfl (by decide +kernel) ⟨(Nat.le_of_ble_eq_true rfl), (Nat.le_of_ble_eq_true rfl)⟩) ⟨hpx_bl, va_recv hK hPc (ci := 6) (q0 := 0) rfl rfl, fun U hU hW => hpx_ok hU hW hPc hK hDc hE hS hFc⟩ rfl rfl hl.1 rfl (lv_room (Nat.le_of_ble_eq_true rfl)) dL_out_4 ⟨(Nat.le_of_ble_eq_true rfl), (Nat.le_of_ble_eq_true rfl)⟩) hS (fun q _ h => hFc q h) hFc (fun q _ h => hFc q h) (fun E9 ce9 q9 u t H locs ht hvm hw hB hz1 hk1 hS hce hcv hcl => ?_) (fun r9 u t H locs ht hvm hw hB hz1 hk1 hS => hw.elim)
  obtain rfl := hB
  obtain ⟨hP, hD⟩ := va_join (wr := [(o0, .inl (cL, 1, .inr (.inl g)))]) (w1 := []) hP hD [0, 1, 2] [3] rfl rfl (by decide) (by decide) hk1 hFc nil_P nil_D
  have hP : va_P (dC, dI) vwCl [(o0, .inl (cL, 1, .inr (.inl g)))] H := hP
  have hD : va_D A [(o0, .inl (cL, 1, .inr (.inl g)))] := hD
  refine vx_widen (k := 1) (n := 6) (Nat.le_of_ble_eq_true rfl) (Nat.le_of_ble_eq_true rfl) ?_
  refine ct_catch (own := RL) (name := "java/lang/IndexOutOfBoundsException") hown _ _ hct (by decide) (by decide) (hg _ k_308) (va_Nw.use rfl hE.2.1) hce hcv hcl ?_
  refine W.eq (g2 := F0 m 12 ls [.ref q9]) rfl ?_
  refine lv_astore_n (lv' := [(3, .ref q9), (0, .ref h0), (1, .int x), (2, .ref o0)]) hx hb dL_out_12 rfl hl (by decide) rfl (fun ls hl => ?_)
  refine lv_iconst (v := 1) hx hb dL_out_13 (by decide) ?_
  have hP9 := hP.sub (ws' := [(o0, .inl (cL, 1, .inr (.inl g)))]) [0] rfl
  have hD9 := hD.sub (ws' := [(o0, .inl (cL, 1, .inr (.inl g)))]) [0] (by decide) rfl
  refine W.widen (k := 1) (n := 6) (Nat.le_of_ble_eq_true rfl) (Nat.le_of_ble_eq_true rfl) ?_
  exact W.iret (v := 1) hx hb hr (fun t ht hW => ⟨⟨1, (), rfl, rfl, by rw [ht]; exact hP9, hD9⟩, hS.F ht⟩) hS.2.2 dL_out_14

set_option maxHeartbeats 4000000 in
set_option maxRecDepth 100000 in
/-- the law's out: the class throws -/
theorem c_L_outP (l : Launch) (dC : Nat → ClassId) (dI : Nat → Nat → Nat) (cI cZ cL : ClassId) (h0 p0 n0 o0 : Nat) (sz : Nat) (r0 j0 a1 p1 p2 b1 b2 b3 b4 b5 : Nat) (x : Int32) (g : Nat → Int64) (hst : l.stackTraces = false) (hn : ¬ x < 0) : Met l yL_out (wh yL_out cL_out 4 (some .int) [(0, 9, 12, 28)]) ({ frames := 7, cells := 1, slots := 6, locals := 103 }) (va_Pc [.ref h0, .int x, .ref o0] (hpx dC dI cI cZ cL sz [(h0, .inr (6, [.ref a1, .int 0, .int (-1), .ref n0, .ref r0, .ref j0, .ref p0])), (p0, .inr (3, [.ref n0, .ref p1, .ref p2, .int 0, .int (-1), .int 0])), (n0, .inr (2, [.ref b1, .ref b2, .ref b3, .ref b4, .ref b5, .int 0])), (o0, .inl (cL, 1, .inr (.inl g)))])) (va_Qi (fun (r : Int32) (_ : Unit) => r = 1) (fun (_ : Unit) t => va_P (dC, dI) vwCl [(o0, .inl (cL, 1, .inr (.inl g)))] t.heap ∧ va_D (va_A [(h0, .inr (6, [.ref a1, .int 0, .int (-1), .ref n0, .ref r0, .ref j0, .ref p0])), (p0, .inr (3, [.ref n0, .ref p1, .ref p2, .int 0, .int (-1), .int 0])), (n0, .inr (2, [.ref b1, .ref b2, .ref b3, .ref b4, .ref b5, .int 0])), (o0, .inl (cL, 1, .inr (.inl g)))] sz) [(o0, .inl (cL, 1, .inr (.inl g)))]) (va_A [(h0, .inr (6, [.ref a1, .int 0, .int (-1), .ref n0, .ref r0, .ref j0, .ref p0])), (p0, .inr (3, [.ref n0, .ref p1, .ref p2, .int 0, .int (-1), .int 0])), (n0, .inr (2, [.ref b1, .ref b2, .ref b3, .ref b4, .ref b5, .int 0])), (o0, .inl (cL, 1, .inr (.inl g)))] sz)) 1 6 (va_A [(h0, .inr (6, [.ref a1, .int 0, .int (-1), .ref n0, .ref r0, .ref j0, .ref p0])), (p0, .inr (3, [.ref n0, .ref p1, .ref p2, .int 0, .int (-1), .int 0])), (n0, .inr (2, [.ref b1, .ref b2, .ref b3, .ref b4, .ref b5, .int 0])), (o0, .inl (cL, 1, .inr (.inl g)))] sz) := by
  refine va_MetW (cc := cL_out) (maxL := 4) (ret := (some .int)) (hh := [(0, 9, 12, 28)]) (by decide) rfl ?_
  intro p e s m args below meth c s₁ B hml hv
  obtain ⟨rfl, hsz, hP, hK, hD0, hE0⟩ := hv
  have hx := B.exec
  have hb := B.bytes
  have hr := B.returns
  have hw9 := atoms_spec (ws := (wh yL_out cL_out 4 (some .int) [(0, 9, 12, 28)])) B.pre
  have hg := gw_hts hw9
  have hown : s.vm.findClass RL = some m.cls := findClass_of_methodNamed B.named
  have hlocks := B.notSynchronized
  have hct := vx_table (x := yL_out) B (hw9 _ List.mem_cons_self)
  subst hsz
  have hD := hD0.self (sz := s.heap.size)
  have hE := hE0
  generalize hAe : va_A [(h0, .inr (6, [.ref a1, .int 0, .int (-1), .ref n0, .ref r0, .ref j0, .ref p0])), (p0, .inr (3, [.ref n0, .ref p1, .ref p2, .int 0, .int (-1), .int 0])), (n0, .inr (2, [.ref b1, .ref b2, .ref b3, .ref b4, .ref b5, .int 0])), (o0, .inl (cL, 1, .inr (.inl g)))] s.heap.size = A at hD hE ⊢
  have hA : ∀ q : Nat, s.heap.size ≤ q → A q := fun q h => by rw [← hAe]; exact Or.inr h
  have hS : va_S A s.heap s.heap [] := va_S.rf
  have hl := lv_entry ([.ref h0, .int x, .ref o0]) (n := 4) (Nat.le_of_ble_eq_true rfl)
  rw [lg_entry_eq]
  generalize (lg_sl ([.ref h0, .int x, .ref o0]) ++ List.replicate (4 - (lg_sl ([.ref h0, .int x, .ref o0])).length) Slot.unset).toArray = ls at hl ⊢
  have hl : lv_has ls 4 [(0, .ref h0), (1, .int x), (2, .ref o0)] := hl
  refine lv_aload_n hx hb dL_out_0 rfl (lv_at hl 2 rfl) ?_
  refine lv_iconst (v := 0) hx hb dL_out_1 (by decide) ?_
  refine lv_aload_n hx hb dL_out_2 rfl (lv_at hl 0 rfl) ?_
  refine lv_iload_n hx hb dL_out_3 rfl (lv_at hl 1 rfl) ?_
  have hPc := hP.sub (ws' := [(h0, .inr (6, [.ref a1, .int 0, .int (-1), .ref n0, .ref r0, .ref j0, .ref p0])), (p0, .inr (3, [.ref n0, .ref p1, .ref p2, .int 0, .int (-1), .int 0])), (n0, .inr (2, [.ref b1, .ref b2, .ref b3, .ref b4, .ref b5, .int 0]))]) [0, 1, 2] rfl
  have hDc := hD.sub (ws' := [(h0, .inr (6, [.ref a1, .int 0, .int (-1), .ref n0, .ref r0, .ref j0, .ref p0])), (p0, .inr (3, [.ref n0, .ref p1, .ref p2, .int 0, .int (-1), .int 0])), (n0, .inr (2, [.ref b1, .ref b2, .ref b3, .ref b4, .ref b5, .int 0]))]) [0, 1, 2] (by decide) rfl
  have hFc := va_free (wc := [(h0, .inr (6, [.ref a1, .int 0, .int (-1), .ref n0, .ref r0, .ref j0, .ref p0])), (p0, .inr (3, [.ref n0, .ref p1, .ref p2, .int 0, .int (-1), .int 0])), (n0, .inr (2, [.ref b1, .ref b2, .ref b3, .ref b4, .ref b5, .int 0]))]) hD hS hA [0, 1, 2] rfl
  refine vx_calli (vx_runV (As := [.int x]) (rest := [.int 0, .ref o0]) ⟨hx, hb, hml, hown, hg⟩ (c_X6_outP l dC dI cI cZ cL h0 p0 n0 (Array.size _) r0 j0 a1 p1 p2 b1 b2 b3 b4 b5 x hst hn) (cwV 1 hg (gw_V k_305 k_306 k_307 k_280 g_yX6_out) rfl rfl rfl (by decide +kernel) ⟨(Nat.le_of_ble_eq_true rfl), (Nat.le_of_ble_eq_true rfl)⟩) ⟨hpx_bl, va_recv hK hPc (ci := 6) (q0 := 0) rfl rfl, fun U hU hW => hpx_ok hU hW hPc hK hDc hE hS hFc⟩ rfl rfl hl.1 rfl (lv_room (Nat.le_of_ble_eq_true rfl)) dL_out_4 ⟨(Nat.le_of_ble_eq_true rfl), (Nat.le_of_ble_eq_true rfl)⟩) hS (fun q _ h => hFc q h) hFc (fun q _ h => hFc q h) (fun E9 ce9 q9 u t H locs ht hvm hw hB hz1 hk1 hS hce hcv hcl => ?_) (fun r9 u t H locs ht hvm hw hB hz1 hk1 hS => hw.elim)
  obtain rfl := hB
  obtain ⟨hP, hD⟩ := va_join (wr := [(o0, .inl (cL, 1, .inr (.inl g)))]) (w1 := []) hP hD [0, 1, 2] [3] rfl rfl (by decide) (by decide) hk1 hFc nil_P nil_D
  have hP : va_P (dC, dI) vwCl [(o0, .inl (cL, 1, .inr (.inl g)))] H := hP
  have hD : va_D A [(o0, .inl (cL, 1, .inr (.inl g)))] := hD
  refine vx_widen (k := 1) (n := 6) (Nat.le_of_ble_eq_true rfl) (Nat.le_of_ble_eq_true rfl) ?_
  refine ct_catch (own := RL) (name := "java/lang/IndexOutOfBoundsException") hown _ _ hct (by decide) (by decide) (hg _ k_308) (va_Nw.use rfl hE.2.1) hce hcv hcl ?_
  refine W.eq (g2 := F0 m 12 ls [.ref q9]) rfl ?_
  refine lv_astore_n (lv' := [(3, .ref q9), (0, .ref h0), (1, .int x), (2, .ref o0)]) hx hb dL_out_12 rfl hl (by decide) rfl (fun ls hl => ?_)
  refine lv_iconst (v := 1) hx hb dL_out_13 (by decide) ?_
  have hP9 := hP.sub (ws' := [(o0, .inl (cL, 1, .inr (.inl g)))]) [0] rfl
  have hD9 := hD.sub (ws' := [(o0, .inl (cL, 1, .inr (.inl g)))]) [0] (by decide) rfl
  refine W.widen (k := 1) (n := 6) (Nat.le_of_ble_eq_true rfl) (Nat.le_of_ble_eq_true rfl) ?_
  exact W.iret (v := 1) hx hb hr (fun t ht hW => ⟨⟨1, (), rfl, rfl, by rw [ht]; exact hP9, hD9⟩, hS.F ht⟩) hS.2.2 dL_out_14
end
