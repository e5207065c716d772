section
-- ===== PART A: goes FIRST, ahead of the names: the tables' words, and 'selects' of the private methods out of them =====
/-- a private method of a class that the tables say can be made, by its rows of tables_1 -/
def lw_okq (q : MethodName × Nat) : Prop := (q.1.cls ≠ "java/lang/invoke/MethodHandle" ∧ q.1.cls ≠ "java/lang/invoke/VarHandle") ∧ Cond.instantiable q.1.cls q.2 ∈ tables_1 ∧ Cond.privateMethod q.1 ∈ tables_1 ∧ Cond.instanceMethod q.1 ∈ tables_1
theorem lw_p0 : lw_okq (⟨"java/lang/Throwable", "fillInStackTrace", "(I)Ljava/lang/Throwable;"⟩, 6) := ⟨⟨by decide +kernel, by decide +kernel⟩, List.mem_of_getElem? (i := 132) (by decide +kernel), List.mem_of_getElem? (i := 130) (by decide +kernel), List.mem_of_getElem? (i := 131) (by decide +kernel)⟩
theorem lw_p1 : lw_okq (⟨"MixBench$Memory", "load", "(JI)J"⟩, 1) := ⟨⟨by decide +kernel, by decide +kernel⟩, List.mem_of_getElem? (i := 27) (by decide +kernel), List.mem_of_getElem? (i := 196) (by decide +kernel), List.mem_of_getElem? (i := 197) (by decide +kernel)⟩
theorem lw_p2 : lw_okq (⟨"MixBench$Memory", "store", "(JIJ)V"⟩, 1) := ⟨⟨by decide +kernel, by decide +kernel⟩, List.mem_of_getElem? (i := 27) (by decide +kernel), List.mem_of_getElem? (i := 210) (by decide +kernel), List.mem_of_getElem? (i := 211) (by decide +kernel)⟩
theorem lw_p3 : lw_okq (⟨"MixBench", "doNext", "()I"⟩, 12) := ⟨⟨by decide +kernel, by decide +kernel⟩, List.mem_of_getElem? (i := 19) (by decide +kernel), List.mem_of_getElem? (i := 351) (by decide +kernel), List.mem_of_getElem? (i := 352) (by decide +kernel)⟩
theorem lw_p4 : lw_okq (⟨"MixBench", "followFetch", "(I)V"⟩, 12) := ⟨⟨by decide +kernel, by decide +kernel⟩, List.mem_of_getElem? (i := 19) (by decide +kernel), List.mem_of_getElem? (i := 355) (by decide +kernel), List.mem_of_getElem? (i := 356) (by decide +kernel)⟩
theorem lw_p5 : lw_okq (⟨"MixBench", "operandZ", "(I)J"⟩, 12) := ⟨⟨by decide +kernel, by decide +kernel⟩, List.mem_of_getElem? (i := 19) (by decide +kernel), List.mem_of_getElem? (i := 375) (by decide +kernel), List.mem_of_getElem? (i := 376) (by decide +kernel)⟩
theorem lw_p6 : lw_okq (⟨"MixBench", "bill", "(IZ)V"⟩, 12) := ⟨⟨by decide +kernel, by decide +kernel⟩, List.mem_of_getElem? (i := 19) (by decide +kernel), List.mem_of_getElem? (i := 385) (by decide +kernel), List.mem_of_getElem? (i := 386) (by decide +kernel)⟩
theorem lw_p7 : lw_okq (⟨"MixBench", "perform", "(IJJ)V"⟩, 12) := ⟨⟨by decide +kernel, by decide +kernel⟩, List.mem_of_getElem? (i := 19) (by decide +kernel), List.mem_of_getElem? (i := 392) (by decide +kernel), List.mem_of_getElem? (i := 393) (by decide +kernel)⟩
theorem lw_p8 : lw_okq (⟨"MixBench", "trap", "(IJ)V"⟩, 12) := ⟨⟨by decide +kernel, by decide +kernel⟩, List.mem_of_getElem? (i := 19) (by decide +kernel), List.mem_of_getElem? (i := 397) (by decide +kernel), List.mem_of_getElem? (i := 398) (by decide +kernel)⟩
theorem lw_p9 : lw_okq (⟨"MixBench", "productOrQuotient", "(IJJ)J"⟩, 12) := ⟨⟨by decide +kernel, by decide +kernel⟩, List.mem_of_getElem? (i := 19) (by decide +kernel), List.mem_of_getElem? (i := 401) (by decide +kernel), List.mem_of_getElem? (i := 402) (by decide +kernel)⟩
theorem lw_p10 : lw_okq (⟨"MixBench", "raise", "(JZ)V"⟩, 12) := ⟨⟨by decide +kernel, by decide +kernel⟩, List.mem_of_getElem? (i := 19) (by decide +kernel), List.mem_of_getElem? (i := 413) (by decide +kernel), List.mem_of_getElem? (i := 414) (by decide +kernel)⟩
theorem lw_p11 : lw_okq (⟨"MixBench", "quotient", "(JJ)J"⟩, 12) := ⟨⟨by decide +kernel, by decide +kernel⟩, List.mem_of_getElem? (i := 19) (by decide +kernel), List.mem_of_getElem? (i := 418) (by decide +kernel), List.mem_of_getElem? (i := 419) (by decide +kernel)⟩
theorem lw_p12 : lw_okq (⟨"MixBench", "longQuotient", "(JJJ)J"⟩, 12) := ⟨⟨by decide +kernel, by decide +kernel⟩, List.mem_of_getElem? (i := 19) (by decide +kernel), List.mem_of_getElem? (i := 427) (by decide +kernel), List.mem_of_getElem? (i := 428) (by decide +kernel)⟩
theorem lw_p13 : lw_okq (⟨"MixBench", "writeX", "(IJ)V"⟩, 12) := ⟨⟨by decide +kernel, by decide +kernel⟩, List.mem_of_getElem? (i := 19) (by decide +kernel), List.mem_of_getElem? (i := 435) (by decide +kernel), List.mem_of_getElem? (i := 436) (by decide +kernel)⟩
theorem lw_p14 : lw_okq (⟨"MixBench", "sumOrDifference", "(IJJ)J"⟩, 12) := ⟨⟨by decide +kernel, by decide +kernel⟩, List.mem_of_getElem? (i := 19) (by decide +kernel), List.mem_of_getElem? (i := 440) (by decide +kernel), List.mem_of_getElem? (i := 441) (by decide +kernel)⟩
theorem lw_p15 : lw_okq (⟨"MixBench", "checkedSum", "(JJ)J"⟩, 12) := ⟨⟨by decide +kernel, by decide +kernel⟩, List.mem_of_getElem? (i := 19) (by decide +kernel), List.mem_of_getElem? (i := 444) (by decide +kernel), List.mem_of_getElem? (i := 445) (by decide +kernel)⟩
def lw_privs_1 : List (MethodName × Nat) := [(⟨"java/lang/Throwable", "fillInStackTrace", "(I)Ljava/lang/Throwable;"⟩, 6), (⟨"MixBench$Memory", "load", "(JI)J"⟩, 1), (⟨"MixBench$Memory", "store", "(JIJ)V"⟩, 1), (⟨"MixBench", "doNext", "()I"⟩, 12), (⟨"MixBench", "followFetch", "(I)V"⟩, 12), (⟨"MixBench", "operandZ", "(I)J"⟩, 12), (⟨"MixBench", "bill", "(IZ)V"⟩, 12), (⟨"MixBench", "perform", "(IJJ)V"⟩, 12), (⟨"MixBench", "trap", "(IJ)V"⟩, 12), (⟨"MixBench", "productOrQuotient", "(IJJ)J"⟩, 12), (⟨"MixBench", "raise", "(JZ)V"⟩, 12), (⟨"MixBench", "quotient", "(JJ)J"⟩, 12), (⟨"MixBench", "longQuotient", "(JJJ)J"⟩, 12), (⟨"MixBench", "writeX", "(IJ)V"⟩, 12), (⟨"MixBench", "sumOrDifference", "(IJJ)J"⟩, 12), (⟨"MixBench", "checkedSum", "(JJ)J"⟩, 12)]
theorem lw_r1 : ∀ q ∈ lw_privs_1, lw_okq q := List.forall_mem_cons.mpr ⟨lw_p0, List.forall_mem_cons.mpr ⟨lw_p1, List.forall_mem_cons.mpr ⟨lw_p2, List.forall_mem_cons.mpr ⟨lw_p3, List.forall_mem_cons.mpr ⟨lw_p4, List.forall_mem_cons.mpr ⟨lw_p5, List.forall_mem_cons.mpr ⟨lw_p6, List.forall_mem_cons.mpr ⟨lw_p7, List.forall_mem_cons.mpr ⟨lw_p8, List.forall_mem_cons.mpr ⟨lw_p9, List.forall_mem_cons.mpr ⟨lw_p10, List.forall_mem_cons.mpr ⟨lw_p11, List.forall_mem_cons.mpr ⟨lw_p12, List.forall_mem_cons.mpr ⟨lw_p13, List.forall_mem_cons.mpr ⟨lw_p14, List.forall_mem_cons.mpr ⟨lw_p15, fun _ h => absurd h List.not_mem_nil⟩⟩⟩⟩⟩⟩⟩⟩⟩⟩⟩⟩⟩⟩⟩⟩
theorem lw_p16 : lw_okq (⟨"MixBench", "checkedDifference", "(JJ)J"⟩, 12) := ⟨⟨by decide +kernel, by decide +kernel⟩, List.mem_of_getElem? (i := 19) (by decide +kernel), List.mem_of_getElem? (i := 448) (by decide +kernel), List.mem_of_getElem? (i := 449) (by decide +kernel)⟩
theorem lw_p17 : lw_okq (⟨"MixBench", "comparedOrShifted", "(IJJ)J"⟩, 12) := ⟨⟨by decide +kernel, by decide +kernel⟩, List.mem_of_getElem? (i := 19) (by decide +kernel), List.mem_of_getElem? (i := 452) (by decide +kernel), List.mem_of_getElem? (i := 453) (by decide +kernel)⟩
theorem lw_p18 : lw_okq (⟨"MixBench", "checkedShift", "(JJ)J"⟩, 12) := ⟨⟨by decide +kernel, by decide +kernel⟩, List.mem_of_getElem? (i := 19) (by decide +kernel), List.mem_of_getElem? (i := 456) (by decide +kernel), List.mem_of_getElem? (i := 457) (by decide +kernel)⟩
theorem lw_p19 : lw_okq (⟨"MixBench", "branch", "(IJ)V"⟩, 12) := ⟨⟨by decide +kernel, by decide +kernel⟩, List.mem_of_getElem? (i := 19) (by decide +kernel), List.mem_of_getElem? (i := 473) (by decide +kernel), List.mem_of_getElem? (i := 474) (by decide +kernel)⟩
theorem lw_p20 : lw_okq (⟨"MixBench", "choose", "(IJJ)V"⟩, 12) := ⟨⟨by decide +kernel, by decide +kernel⟩, List.mem_of_getElem? (i := 19) (by decide +kernel), List.mem_of_getElem? (i := 489) (by decide +kernel), List.mem_of_getElem? (i := 490) (by decide +kernel)⟩
theorem lw_p21 : lw_okq (⟨"MixBench", "loadOrGo", "(IJJ)V"⟩, 12) := ⟨⟨by decide +kernel, by decide +kernel⟩, List.mem_of_getElem? (i := 19) (by decide +kernel), List.mem_of_getElem? (i := 493) (by decide +kernel), List.mem_of_getElem? (i := 494) (by decide +kernel)⟩
theorem lw_p22 : lw_okq (⟨"MixBench", "storeX", "(IJ)V"⟩, 12) := ⟨⟨by decide +kernel, by decide +kernel⟩, List.mem_of_getElem? (i := 19) (by decide +kernel), List.mem_of_getElem? (i := 507) (by decide +kernel), List.mem_of_getElem? (i := 508) (by decide +kernel)⟩
theorem lw_p23 : lw_okq (⟨"MixBench", "bytewise", "(IJJ)J"⟩, 12) := ⟨⟨by decide +kernel, by decide +kernel⟩, List.mem_of_getElem? (i := 19) (by decide +kernel), List.mem_of_getElem? (i := 515) (by decide +kernel), List.mem_of_getElem? (i := 516) (by decide +kernel)⟩
theorem lw_p24 : lw_okq (⟨"MixBench", "withWyde", "(I)J"⟩, 12) := ⟨⟨by decide +kernel, by decide +kernel⟩, List.mem_of_getElem? (i := 19) (by decide +kernel), List.mem_of_getElem? (i := 534) (by decide +kernel), List.mem_of_getElem? (i := 535) (by decide +kernel)⟩
theorem lw_p25 : lw_okq (⟨"MixBench", "performRest", "(IJJ)V"⟩, 12) := ⟨⟨by decide +kernel, by decide +kernel⟩, List.mem_of_getElem? (i := 19) (by decide +kernel), List.mem_of_getElem? (i := 538) (by decide +kernel), List.mem_of_getElem? (i := 539) (by decide +kernel)⟩
theorem lw_p26 : lw_okq (⟨"MixBenchModel", "numbers", "()V"⟩, 17) := ⟨⟨by decide +kernel, by decide +kernel⟩, List.mem_of_getElem? (i := 568) (by decide +kernel), List.mem_of_getElem? (i := 574) (by decide +kernel), List.mem_of_getElem? (i := 575) (by decide +kernel)⟩
theorem lw_p27 : lw_okq (⟨"MixBenchModel", "pair", "(III)V"⟩, 17) := ⟨⟨by decide +kernel, by decide +kernel⟩, List.mem_of_getElem? (i := 568) (by decide +kernel), List.mem_of_getElem? (i := 578) (by decide +kernel), List.mem_of_getElem? (i := 579) (by decide +kernel)⟩
theorem lw_p28 : lw_okq (⟨"MixBenchModel", "add", "(II)V"⟩, 17) := ⟨⟨by decide +kernel, by decide +kernel⟩, List.mem_of_getElem? (i := 568) (by decide +kernel), List.mem_of_getElem? (i := 582) (by decide +kernel), List.mem_of_getElem? (i := 583) (by decide +kernel)⟩
theorem lw_p29 : lw_okq (⟨"MixBenchModel", "conditions", "()V"⟩, 17) := ⟨⟨by decide +kernel, by decide +kernel⟩, List.mem_of_getElem? (i := 568) (by decide +kernel), List.mem_of_getElem? (i := 595) (by decide +kernel), List.mem_of_getElem? (i := 596) (by decide +kernel)⟩
theorem lw_p30 : lw_okq (⟨"MixBenchModel", "accesses", "()V"⟩, 17) := ⟨⟨by decide +kernel, by decide +kernel⟩, List.mem_of_getElem? (i := 568) (by decide +kernel), List.mem_of_getElem? (i := 632) (by decide +kernel), List.mem_of_getElem? (i := 633) (by decide +kernel)⟩
theorem lw_p31 : lw_okq (⟨"MixBenchModel", "bitNames", "()V"⟩, 17) := ⟨⟨by decide +kernel, by decide +kernel⟩, List.mem_of_getElem? (i := 568) (by decide +kernel), List.mem_of_getElem? (i := 648) (by decide +kernel), List.mem_of_getElem? (i := 649) (by decide +kernel)⟩
def lw_privs_2 : List (MethodName × Nat) := [(⟨"MixBench", "checkedDifference", "(JJ)J"⟩, 12), (⟨"MixBench", "comparedOrShifted", "(IJJ)J"⟩, 12), (⟨"MixBench", "checkedShift", "(JJ)J"⟩, 12), (⟨"MixBench", "branch", "(IJ)V"⟩, 12), (⟨"MixBench", "choose", "(IJJ)V"⟩, 12), (⟨"MixBench", "loadOrGo", "(IJJ)V"⟩, 12), (⟨"MixBench", "storeX", "(IJ)V"⟩, 12), (⟨"MixBench", "bytewise", "(IJJ)J"⟩, 12), (⟨"MixBench", "withWyde", "(I)J"⟩, 12), (⟨"MixBench", "performRest", "(IJJ)V"⟩, 12), (⟨"MixBenchModel", "numbers", "()V"⟩, 17), (⟨"MixBenchModel", "pair", "(III)V"⟩, 17), (⟨"MixBenchModel", "add", "(II)V"⟩, 17), (⟨"MixBenchModel", "conditions", "()V"⟩, 17), (⟨"MixBenchModel", "accesses", "()V"⟩, 17), (⟨"MixBenchModel", "bitNames", "()V"⟩, 17)]
theorem lw_r2 : ∀ q ∈ lw_privs_2, lw_okq q := List.forall_mem_cons.mpr ⟨lw_p16, List.forall_mem_cons.mpr ⟨lw_p17, List.forall_mem_cons.mpr ⟨lw_p18, List.forall_mem_cons.mpr ⟨lw_p19, List.forall_mem_cons.mpr ⟨lw_p20, List.forall_mem_cons.mpr ⟨lw_p21, List.forall_mem_cons.mpr ⟨lw_p22, List.forall_mem_cons.mpr ⟨lw_p23, List.forall_mem_cons.mpr ⟨lw_p24, List.forall_mem_cons.mpr ⟨lw_p25, List.forall_mem_cons.mpr ⟨lw_p26, List.forall_mem_cons.mpr ⟨lw_p27, List.forall_mem_cons.mpr ⟨lw_p28, List.forall_mem_cons.mpr ⟨lw_p29, List.forall_mem_cons.mpr ⟨lw_p30, List.forall_mem_cons.mpr ⟨lw_p31, fun _ h => absurd h List.not_mem_nil⟩⟩⟩⟩⟩⟩⟩⟩⟩⟩⟩⟩⟩⟩⟩⟩
theorem lw_p32 : lw_okq (⟨"MixBenchModel", "others", "()V"⟩, 17) := ⟨⟨by decide +kernel, by decide +kernel⟩, List.mem_of_getElem? (i := 568) (by decide +kernel), List.mem_of_getElem? (i := 660) (by decide +kernel), List.mem_of_getElem? (i := 661) (by decide +kernel)⟩
theorem lw_p33 : lw_okq (⟨"MixBenchModel", "fail", "(I)I"⟩, 17) := ⟨⟨by decide +kernel, by decide +kernel⟩, List.mem_of_getElem? (i := 568) (by decide +kernel), List.mem_of_getElem? (i := 756) (by decide +kernel), List.mem_of_getElem? (i := 757) (by decide +kernel)⟩
theorem lw_p34 : lw_okq (⟨"MixBenchModel", "m", "(JI)J"⟩, 17) := ⟨⟨by decide +kernel, by decide +kernel⟩, List.mem_of_getElem? (i := 568) (by decide +kernel), List.mem_of_getElem? (i := 772) (by decide +kernel), List.mem_of_getElem? (i := 773) (by decide +kernel)⟩
theorem lw_p35 : lw_okq (⟨"MixBenchModel", "m", "(JIJ)V"⟩, 17) := ⟨⟨by decide +kernel, by decide +kernel⟩, List.mem_of_getElem? (i := 568) (by decide +kernel), List.mem_of_getElem? (i := 776) (by decide +kernel), List.mem_of_getElem? (i := 777) (by decide +kernel)⟩
theorem lw_p36 : lw_okq (⟨"MixBenchModel", "step", "()I"⟩, 17) := ⟨⟨by decide +kernel, by decide +kernel⟩, List.mem_of_getElem? (i := 568) (by decide +kernel), List.mem_of_getElem? (i := 796) (by decide +kernel), List.mem_of_getElem? (i := 797) (by decide +kernel)⟩
theorem lw_p37 : lw_okq (⟨"MixBenchModel", "branch", "(III)I"⟩, 17) := ⟨⟨by decide +kernel, by decide +kernel⟩, List.mem_of_getElem? (i := 568) (by decide +kernel), List.mem_of_getElem? (i := 802) (by decide +kernel), List.mem_of_getElem? (i := 803) (by decide +kernel)⟩
theorem lw_p38 : lw_okq (⟨"MixBenchModel", "low", "(IIII)I"⟩, 17) := ⟨⟨by decide +kernel, by decide +kernel⟩, List.mem_of_getElem? (i := 568) (by decide +kernel), List.mem_of_getElem? (i := 812) (by decide +kernel), List.mem_of_getElem? (i := 813) (by decide +kernel)⟩
theorem lw_p39 : lw_okq (⟨"MixBenchModel", "trap", "(III)I"⟩, 17) := ⟨⟨by decide +kernel, by decide +kernel⟩, List.mem_of_getElem? (i := 568) (by decide +kernel), List.mem_of_getElem? (i := 816) (by decide +kernel), List.mem_of_getElem? (i := 817) (by decide +kernel)⟩
theorem lw_p40 : lw_okq (⟨"MixBenchModel", "number", "(II)J"⟩, 17) := ⟨⟨by decide +kernel, by decide +kernel⟩, List.mem_of_getElem? (i := 568) (by decide +kernel), List.mem_of_getElem? (i := 820) (by decide +kernel), List.mem_of_getElem? (i := 821) (by decide +kernel)⟩
theorem lw_p41 : lw_okq (⟨"MixBenchModel", "over", "(Z)V"⟩, 17) := ⟨⟨by decide +kernel, by decide +kernel⟩, List.mem_of_getElem? (i := 568) (by decide +kernel), List.mem_of_getElem? (i := 828) (by decide +kernel), List.mem_of_getElem? (i := 829) (by decide +kernel)⟩
theorem lw_p42 : lw_okq (⟨"MixBenchModel", "quotient", "(JJ)J"⟩, 17) := ⟨⟨by decide +kernel, by decide +kernel⟩, List.mem_of_getElem? (i := 568) (by decide +kernel), List.mem_of_getElem? (i := 833) (by decide +kernel), List.mem_of_getElem? (i := 834) (by decide +kernel)⟩
theorem lw_p43 : lw_okq (⟨"MixBenchModel", "quotientOf", "(JJ)J"⟩, 17) := ⟨⟨by decide +kernel, by decide +kernel⟩, List.mem_of_getElem? (i := 568) (by decide +kernel), List.mem_of_getElem? (i := 840) (by decide +kernel), List.mem_of_getElem? (i := 841) (by decide +kernel)⟩
theorem lw_p44 : lw_okq (⟨"MixBenchModel", "done", "(IJ)I"⟩, 17) := ⟨⟨by decide +kernel, by decide +kernel⟩, List.mem_of_getElem? (i := 568) (by decide +kernel), List.mem_of_getElem? (i := 851) (by decide +kernel), List.mem_of_getElem? (i := 852) (by decide +kernel)⟩
theorem lw_p45 : lw_okq (⟨"MixBenchModel", "on", "()I"⟩, 17) := ⟨⟨by decide +kernel, by decide +kernel⟩, List.mem_of_getElem? (i := 568) (by decide +kernel), List.mem_of_getElem? (i := 856) (by decide +kernel), List.mem_of_getElem? (i := 857) (by decide +kernel)⟩
theorem lw_p46 : lw_okq (⟨"MixBenchModel", "choose", "(IIII)I"⟩, 17) := ⟨⟨by decide +kernel, by decide +kernel⟩, List.mem_of_getElem? (i := 568) (by decide +kernel), List.mem_of_getElem? (i := 860) (by decide +kernel), List.mem_of_getElem? (i := 861) (by decide +kernel)⟩
theorem lw_p47 : lw_okq (⟨"MixBenchModel", "access", "(IIII)I"⟩, 17) := ⟨⟨by decide +kernel, by decide +kernel⟩, List.mem_of_getElem? (i := 568) (by decide +kernel), List.mem_of_getElem? (i := 864) (by decide +kernel), List.mem_of_getElem? (i := 865) (by decide +kernel)⟩
def lw_privs_3 : List (MethodName × Nat) := [(⟨"MixBenchModel", "others", "()V"⟩, 17), (⟨"MixBenchModel", "fail", "(I)I"⟩, 17), (⟨"MixBenchModel", "m", "(JI)J"⟩, 17), (⟨"MixBenchModel", "m", "(JIJ)V"⟩, 17), (⟨"MixBenchModel", "step", "()I"⟩, 17), (⟨"MixBenchModel", "branch", "(III)I"⟩, 17), (⟨"MixBenchModel", "low", "(IIII)I"⟩, 17), (⟨"MixBenchModel", "trap", "(III)I"⟩, 17), (⟨"MixBenchModel", "number", "(II)J"⟩, 17), (⟨"MixBenchModel", "over", "(Z)V"⟩, 17), (⟨"MixBenchModel", "quotient", "(JJ)J"⟩, 17), (⟨"MixBenchModel", "quotientOf", "(JJ)J"⟩, 17), (⟨"MixBenchModel", "done", "(IJ)I"⟩, 17), (⟨"MixBenchModel", "on", "()I"⟩, 17), (⟨"MixBenchModel", "choose", "(IIII)I"⟩, 17), (⟨"MixBenchModel", "access", "(IIII)I"⟩, 17)]
theorem lw_r3 : ∀ q ∈ lw_privs_3, lw_okq q := List.forall_mem_cons.mpr ⟨lw_p32, List.forall_mem_cons.mpr ⟨lw_p33, List.forall_mem_cons.mpr ⟨lw_p34, List.forall_mem_cons.mpr ⟨lw_p35, List.forall_mem_cons.mpr ⟨lw_p36, List.forall_mem_cons.mpr ⟨lw_p37, List.forall_mem_cons.mpr ⟨lw_p38, List.forall_mem_cons.mpr ⟨lw_p39, List.forall_mem_cons.mpr ⟨lw_p40, List.forall_mem_cons.mpr ⟨lw_p41, List.forall_mem_cons.mpr ⟨lw_p42, List.forall_mem_cons.mpr ⟨lw_p43, List.forall_mem_cons.mpr ⟨lw_p44, List.forall_mem_cons.mpr ⟨lw_p45, List.forall_mem_cons.mpr ⟨lw_p46, List.forall_mem_cons.mpr ⟨lw_p47, fun _ h => absurd h List.not_mem_nil⟩⟩⟩⟩⟩⟩⟩⟩⟩⟩⟩⟩⟩⟩⟩⟩
theorem lw_p48 : lw_okq (⟨"MixBenchModel", "bits", "(IIII)I"⟩, 17) := ⟨⟨by decide +kernel, by decide +kernel⟩, List.mem_of_getElem? (i := 568) (by decide +kernel), List.mem_of_getElem? (i := 871) (by decide +kernel), List.mem_of_getElem? (i := 872) (by decide +kernel)⟩
theorem lw_p49 : lw_okq (⟨"MixBenchModel", "high", "(IIIII)I"⟩, 17) := ⟨⟨by decide +kernel, by decide +kernel⟩, List.mem_of_getElem? (i := 568) (by decide +kernel), List.mem_of_getElem? (i := 882) (by decide +kernel), List.mem_of_getElem? (i := 883) (by decide +kernel)⟩
def lw_privs_4 : List (MethodName × Nat) := [(⟨"MixBenchModel", "bits", "(IIII)I"⟩, 17), (⟨"MixBenchModel", "high", "(IIIII)I"⟩, 17)]
theorem lw_r4 : ∀ q ∈ lw_privs_4, lw_okq q := List.forall_mem_cons.mpr ⟨lw_p48, List.forall_mem_cons.mpr ⟨lw_p49, fun _ h => absurd h List.not_mem_nil⟩⟩
def lw_privs : List (MethodName × Nat) := lw_privs_1 ++ (lw_privs_2 ++ (lw_privs_3 ++ (lw_privs_4)))
def lw_tbl : List Cond := k2_sels lw_privs ++ tables_1
theorem lw_privs_ok : ∀ q ∈ lw_privs, lw_okq q := by
  show ∀ q ∈ lw_privs_1 ++ (lw_privs_2 ++ (lw_privs_3 ++ (lw_privs_4))), lw_okq q
  exact List.forall_mem_append.mpr ⟨lw_r1, List.forall_mem_append.mpr ⟨lw_r2, List.forall_mem_append.mpr ⟨lw_r3, lw_r4⟩⟩⟩
-- ===== end of PART A; then your names; then what follows =====
end
section
/-! ===== BEGIN words of one list among another's, by their places ===== -/
theorem goodIn_r {big : List Cond} (ws : List Cond) (ps : List Nat) (hp : ws = ps.filterMap (fun i => big[i]?)) (h : ws.all goodWord = true) : GoodIn big ws := by
  intro w hw
  have h1 := List.all_eq_true.mp h w hw
  rw [hp] at hw
  obtain ⟨i, -, hi⟩ := List.mem_filterMap.mp hw
  have hm : w ∈ big := by first | exact List.mem_of_getElem? hi | exact List.getElem?_mem hi
  exact ⟨hm, good_of_word h1⟩
theorem goodIn_app {big a b : List Cond} (ha : GoodIn big a) (hb : GoodIn big b) : GoodIn big (a ++ b) := fun w h => (List.mem_append.mp h).elim (ha w) (hb w)
theorem goodIn_ca {big a b : List Cond} {c : Cond} (ha : GoodIn big (c :: a)) (hb : GoodIn big b) : GoodIn big (c :: (a ++ b)) := fun w h => (List.mem_cons.mp h).elim (fun e => ha w (List.mem_cons.mpr (Or.inl e))) (fun h => (List.mem_append.mp h).elim (fun h => ha w (List.mem_cons.mpr (Or.inr h))) (hb w))
theorem goodIn_sub {big ws : List Cond} (hm : ∀ w ∈ ws, w ∈ big) (h : ws.all goodWord = true) : GoodIn big ws := fun w hw => ⟨hm w hw, good_of_word (List.all_eq_true.mp h w hw)⟩
/-! ===== END ===== -/

/-! ===== BEGIN exceptions that leave a method, and their catching by the caller (launches without stack traces) ===== -/
section VXA
/-! The laws vx_back, vx_callV, vx_callS, vx_callSW, vx_throw0, vx_throwS follow proofs of the library, with one case more: JvmDerived/Free/Laws.lean (Back.of_free), Shelf42/LK1.lean (callV, callS), Shelf/KitTraced.lean (throwNew0V, throwNewS). -/
/-- where a method has thrown q: the class by its name, the cell, what was written, the world -/
def vx_T (XC : String → State → State → Prop) (st : State) (q : Addr) (t : State) (mc ms : Nat) (free : Addr → Prop) : Prop :=
  ∃ (E : String) (ce : Cell) (L : List Loc), XC E st t ∧ t.heap[q]? = some ce ∧ ce.vm = .none ∧ st.vm.findClass E = some ce.cls ∧ st.WarmedH t.vm ∧ st.sameButNew ({ t with vm := st.vm } : State) L mc ms ∧ ∀ z ∈ L, free z.base
def vx_Q (Qc : Array Value → State → Outcome → State → Prop) (XC : String → State → State → Prop) (mc ms : Nat) (free : Addr → Prop) : Array Value → State → Outcome → State → Prop := fun a st o t =>
  (Qc a st o t ∧ ∃ L, FrameEnd st o t L mc ms ∧ ∀ q ∈ L, free q.base) ∨ ∃ q, o = .threw q ∧ vx_T XC st q t mc ms free
/-- a callee that returns or throws -/
def vx_Met (l : Launch) (y : MethodName) (ws : List Cond) (rm : Room) (Pc : Array Value → State → Prop) (Qc : Array Value → State → Outcome → State → Prop) (XC : String → State → State → Prop) (mc ms : Nat) (free : Addr → Prop) : Prop :=
  MetFree l y (headSpec ws rm) Pc (fun _ _ _ _ _ => True) (vx_Q Qc XC mc ms free)
def vx_Post (XC : String → State → State → Prop) (mc ms : Nat) (free : Addr → Prop) : Pt → Array Value → Addr → Pt → Prop := fun A a q B =>
  ∃ (g : JFrame) (mk : MethodId) (t : State) (L : List Loc) (E : String) (ce : Cell), B.U.heap = t.heap ∧ B.U.vm = t.vm ∧ XC E (A.U.calling g mk a) t ∧ t.heap[q]? = some ce ∧ ce.vm = .none ∧ A.U.vm.findClass E = some ce.cls ∧ B.locs = A.locs ++ L ∧ (∀ z ∈ L, free z.base) ∧ B.cells = A.cells + mc ∧ B.slots = A.slots + ms
def vx_Back (l : Launch) (R : Room) (p : Program) (e : Env) (below : List Frame) (s : State) (sargs : Array Value) (y : MethodName) (len W9 : Nat)
    (Pre : Pt → Array Value → Prop) (Post : Pt → Array Value → Option Value → Pt → Prop) (PostX : Pt → Array Value → Addr → Pt → Prop) : Prop :=
  ∀ (m : MethodId) (meth : Method) (c : Code) (A : Pt) (g : JFrame) (ig : Instr) (mk : MethodId) (a : Array Value),
    Stand p l e R s m sargs below meth c A.U A.locs A.cells A.slots → g.method = m → g.locals.size = c.maxLocals → decode c.code g.pc = .ok (ig, len) →
    2 * g.monitorRoom + (g.stack.map fun v => v.category).sum ≤ W9 → A.U.methodNamed? y = some mk → Pre A a →
    (∃ (v : Option Value) (B : Pt), Stand p l e R s m sargs below meth c B.U B.locs B.cells B.slots ∧ Post A a v B ∧
      Steps p.tables e below (doInvoke e (A.U.setTop g) [] mk a).1 (B.U.setTop { g with pc := g.pc + len, stack := v.toList ++ g.stack })) ∨
    (∃ (q : Addr) (B : Pt), Stand p l e R s m sargs below meth c B.U B.locs B.cells B.slots ∧ PostX A a q B ∧
      Steps p.tables e below (doInvoke e (A.U.setTop g) [] mk a).1 ((B.U.setTop g).pushFrame (.throwing q)))
section Payer
variable {l : Launch} {R : Room} {p : Program} {e : Env} {below : List Frame} {s : State} {sargs : Array Value} {y : MethodName} {len W9 : Nat}
theorem vx_back {ws : List Cond} {rm : Room} {Pc : Array Value → State → Prop} {Qc : Array Value → State → Outcome → State → Prop} {XC : String → State → State → Prop} {mc ms : Nat} {free : Addr → Prop} {bytes : ByteArray} {maxL : Nat} {ret : Option FieldType}
    (hM : vx_Met l y ws rm Pc Qc XC mc ms free) (hblind : FrameBlind Pc) (hrc : rm.cells = mc) (hrs : rm.slots = ms)
    (hframes : rm.frames + 1 ≤ R.frames) (hlocals : W9 + (maxL + 11) + rm.locals ≤ R.locals)
    (hws : ∀ w ∈ ws, ∀ a' U, s.WarmedH U.vm → w.before a' U = true) (hcode : Cond.code y bytes maxL ret ∈ ws) (hinit : ∀ a' U, s.WarmedH U.vm → (Cond.initialized y.cls).before a' U = true) :
    vx_Back l R p e below s sargs y len W9 (PreOf R mc ms Pc) (PostOf Qc mc ms free) (vx_Post XC mc ms free) := by
  intro m meth c A g ig mk a X hg hsize hdg hW hn hp
  have h1 : (headSpec ws rm).pre.before a A.U = true := atoms_intro fun w hw => hws w hw _ _ X.warmed
  have h2 : (Cond.code y bytes maxL ret).before a A.U = true := hws _ hcode _ _ X.warmed
  have h3 : (Cond.initialized y.cls).before a A.U = true := hinit _ _ X.warmed
  have h4 : A.cells + (headSpec ws rm).room.cells ≤ R.cells := by rw [show (headSpec ws rm).room.cells = mc from hrc]; exact hp.1
  have h5 : A.slots + (headSpec ws rm).room.slots ≤ R.slots := by rw [show (headSpec ws rm).room.slots = ms from hrs]; exact hp.2.1
  have hPc : Pc a (A.U.calling g mk a) := hblind _ _ _ _ hp.2.2
  obtain ⟨U, Ls, c0, s0⟩ := A
  dsimp only [Pt.U, Pt.locs, Pt.cells, Pt.slots] at h1 h2 h3 h4 h5 X hn hPc ⊢
  obtain ⟨methY, cY, hmY, hcY, -, hlY, -, -, -, -⟩ := Cond.code_spec hn h2
  obtain ⟨kY, hkY, -⟩ := className_of_methodNamed hn
  have hinitY : kY.init = .initialized := Cond.initialized_spec (findClass_of_methodNamed hn) hkY h3
  have h : At U g.method c below := by rw [hg]; exact X.here
  have hlocals9 : W9 + (maxL + 11) + (headSpec ws rm).room.locals ≤ R.locals := hlocals
  have happ : (headSpec ws rm).appliesLoose y e.platform (U.calling g mk a) = true :=
    Spec.appliesLoose_calling (g := g) h hdg hn hkY hinitY
      (X.room_calling (g := g) (R' := (headSpec ws rm).room) hsize hmY hcY hframes (by rw [hlY]; omega) h4 h5) h1
  obtain ⟨mid, hmid⟩ := h.above
  have hfr : (U.setTop g).frames = (.java g :: mid) ++ below := by rw [State.frames_setTop' g h.top, hmid]; rfl
  obtain ⟨o, s₂, hsteps, -, hend, hq⟩ := Steps.callFree hM p X.admits X.cas X.clock (acts := []) hfr happ hPc trivial
  have hq' : vx_Q Qc XC mc ms free a (U.calling g mk a) o s₂ := hq
  rw [State.frames_setTop' g h.top] at hend
  obtain ⟨g₀, hg0⟩ := Option.isSome_iff_exists.mp h.top
  obtain ⟨r, hr⟩ := State.topJava?_eq_some.mp hg0
  have hr' : (({ U with heap := s₂.heap, slotsUsed := s₂.slotsUsed } : State).setVm s₂.vm).frames = .java g₀ :: r := hr
  rcases hq' with ⟨hqc, L, hfe, hL⟩ | ⟨q, rfl, E, ce, L, hx, hce, hcv, hcl, hW₂, hsm, hL⟩
  · obtain ⟨⟨v, rfl⟩, hW₂, e2, q2, q3, q4, q5, q6⟩ := id hfe
    have e3 : s₂ = ({ (U.calling g mk a).setFrames s₂.frames with heap := s₂.heap, slotsUsed := s₂.slotsUsed } : State).setVm s₂.vm := by
      have : s₂ = ({ s₂ with vm := (U.calling g mk a).vm } : State).setVm s₂.vm := rfl
      rw [e2] at this
      exact this
    obtain ⟨c₂, i₂, len₂, hc₂, hd₂, hf₂⟩ := hend
    have hW' : U.WarmedH s₂.vm := hW₂
    have hcc : c₂ = c := by
      have h1 : s₂.code? g.method = U.code? g.method := by
        rw [State.code?_eq, State.code?_eq, hW'.alike.method?]
      exact Option.some.inj (hc₂.symm.trans (h1.trans h.code))
    subst hcc
    have hlen : len₂ = len := by rw [hdg] at hd₂; cases hd₂; rfl
    subst hlen
    have hs₂ : s₂ = (({ U with heap := s₂.heap, slotsUsed := s₂.slotsUsed } : State).setVm s₂.vm).setTop { g with pc := g.pc + len₂, stack := v.toList ++ g.stack } := by
      refine e3.trans ?_
      rw [hf₂, State.calling_eq h.top, State.setFrames_setFrames, State.setTop_of_frames _ hr', hr]
      rfl
    have hsame : U.sameButNew ({ U with heap := s₂.heap, slotsUsed := s₂.slotsUsed } : State) L mc ms := by
      refine ⟨?_, q2, q3, q4, q5, q6⟩
      obtain ⟨t, ht, -⟩ := State.frames_cons hr
      show ({ U with heap := s₂.heap, slotsUsed := s₂.slotsUsed } : State) = { U.setFrames U.frames with heap := s₂.heap, slotsUsed := s₂.slotsUsed }
      rw [State.setFrames_self ht]
    subst hg
    refine Or.inl ⟨v, ⟨(({ U with heap := s₂.heap, slotsUsed := s₂.slotsUsed } : State).setVm s₂.vm), Ls ++ L, c0 + mc, s0 + ms⟩,
      ⟨X.admits, X.cas, X.clock, X.frames, X.room, X.hears, X.method, X.code, (X.here.setHeapUsed s₂.heap s₂.slotsUsed).setVm hW'.alike, X.tail, State.WarmedH.trans X.warmed hW', X.limits, X.bytes, X.same.trans (hsame.setVm s.vm)⟩,
      ⟨g, mk, s₂, L, rfl, rfl, hqc, rfl, hL, rfl, rfl⟩, ?_⟩
    show Steps p.tables e below _ ((({ U with heap := s₂.heap, slotsUsed := s₂.slotsUsed } : State).setVm s₂.vm).setTop { g with pc := g.pc + len₂, stack := v.toList ++ g.stack })
    rw [← hs₂]
    exact hsteps
  · obtain ⟨e2, q2, q3, q4, q5, q6⟩ := id hsm
    have e3 : s₂ = ({ (U.calling g mk a).setFrames s₂.frames with heap := s₂.heap, slotsUsed := s₂.slotsUsed } : State).setVm s₂.vm := by
      have : s₂ = ({ s₂ with vm := (U.calling g mk a).vm } : State).setVm s₂.vm := rfl
      rw [e2] at this
      exact this
    have hf₂ : s₂.frames = .throwing q :: .java g :: U.frames.tail := hend
    have hW' : U.WarmedH s₂.vm := hW₂
    have hs₂ : s₂ = ((({ U with heap := s₂.heap, slotsUsed := s₂.slotsUsed } : State).setVm s₂.vm).setTop g).pushFrame (.throwing q) := by
      refine e3.trans ?_
      rw [hf₂, State.calling_eq h.top, State.setFrames_setFrames, State.pushFrame, State.frames_setTop _ hr', State.setTop_of_frames _ hr', State.setFrames_setFrames, hr]
      rfl
    have hsame : U.sameButNew ({ U with heap := s₂.heap, slotsUsed := s₂.slotsUsed } : State) L mc ms := by
      refine ⟨?_, q2, q3, q4, q5, q6⟩
      obtain ⟨t, ht, -⟩ := State.frames_cons hr
      show ({ U with heap := s₂.heap, slotsUsed := s₂.slotsUsed } : State) = { U.setFrames U.frames with heap := s₂.heap, slotsUsed := s₂.slotsUsed }
      rw [State.setFrames_self ht]
    subst hg
    refine Or.inr ⟨q, ⟨(({ U with heap := s₂.heap, slotsUsed := s₂.slotsUsed } : State).setVm s₂.vm), Ls ++ L, c0 + mc, s0 + ms⟩,
      ⟨X.admits, X.cas, X.clock, X.frames, X.room, X.hears, X.method, X.code, (X.here.setHeapUsed s₂.heap s₂.slotsUsed).setVm hW'.alike, X.tail, State.WarmedH.trans X.warmed hW', X.limits, X.bytes, X.same.trans (hsame.setVm s.vm)⟩,
      ⟨g, mk, s₂, L, E, ce, rfl, rfl, hx, hce, hcv, hcl, rfl, hL, rfl, rfl⟩, ?_⟩
    show Steps p.tables e below _ (((({ U with heap := s₂.heap, slotsUsed := s₂.slotsUsed } : State).setVm s₂.vm).setTop g).pushFrame (.throwing q))
    rw [← hs₂]
    exact hsteps
end Payer
section Calls
variable {p : Program} {l : Launch} {e : Env} {R : Room} {s : State} {m : MethodId} {args : Array Value} {below : List Frame} {meth : Method} {c : Code} {T : State} {locs : List Loc} {cells slots : Nat}
theorem vx_callV (X : Stand p l e R s m args below meth c T locs cells slots) (hexec : p.tables.exec = Jvm.exec) {own C : String} {index : Nat} {y : MethodName} {bytes : ByteArray} {maxL : Nat} {ret : Option FieldType}
    (hown : s.vm.findClass own = some m.cls) (hlink : (Cond.methodLink own index y).before args s = true) (hinst : (Cond.instanceMethod y).before args s = true) (hsel : (Cond.selects C y y).before args s = true)
    (hcode : (Cond.code y bytes maxL ret).before args s = true) (hy : y.cls ≠ "java/lang/invoke/MethodHandle" ∧ y.cls ≠ "java/lang/invoke/VarHandle")
    {W9 : Nat} {Pre : Pt → Array Value → Prop} {Post : Pt → Array Value → Option Value → Pt → Prop} {PostX : Pt → Array Value → Addr → Pt → Prop} (hK : vx_Back l R p e below s args y 3 W9 Pre Post PostX)
    {b : Addr} {cellB : Cell} (hcell : T.heap[b]? = some cellB) (hobj : cellB.vm.isStatics = false) (hcls : s.vm.findClass C = some cellB.cls)
    {g : JFrame} (hg : g.method = m) (hsize : g.locals.size = c.maxLocals) {argsL rest : List Value} (hlen : ∀ sig, parseMethodDescriptor y.desc = some sig → argsL.length = sig.parameters.length)
    (hstack : g.stack = argsL.reverse ++ .ref b :: rest) (hW : 2 * g.monitorRoom + (rest.map fun v => v.category).sum ≤ W9) (hdg : decode c.code g.pc = .ok (.invokevirtual index, 3))
    (hpre : ∀ vm₁, s.WarmedH vm₁ → Pre ⟨T.setVm vm₁, locs, cells, slots⟩ (Value.ref b :: argsL).toArray) :
    (∃ (v : Option Value) (vm₁ : Vm) (B : Pt), s.WarmedH vm₁ ∧ Stand p l e R s m args below meth c B.U B.locs B.cells B.slots ∧ Post ⟨T.setVm vm₁, locs, cells, slots⟩ (Value.ref b :: argsL).toArray v B ∧
      ∀ target, Steps p.tables e below (B.U.setTop { g with pc := g.pc + 3, stack := v.toList ++ rest }) target → Steps p.tables e below (T.setTop g) target) ∨
    (∃ (q : Addr) (vm₁ : Vm) (B : Pt), s.WarmedH vm₁ ∧ Stand p l e R s m args below meth c B.U B.locs B.cells B.slots ∧ PostX ⟨T.setVm vm₁, locs, cells, slots⟩ (Value.ref b :: argsL).toArray q B ∧
      Steps p.tables e below (T.setTop g) ((B.U.setTop { g with stack := rest }).pushFrame (.throwing q))) := by
  obtain ⟨mk, methM, hnamed, hmethM, hstM, habM⟩ := Cond.instanceMethod_spec hinst
  obtain ⟨methM', cM, hmethM', -, -, -, -, -, -, hsigM⟩ := Cond.code_spec hnamed hcode
  cases hmethM.symm.trans hmethM'
  obtain ⟨c2, r2, m2, q1, q2, q3, q4, kP, hkP, hkPi⟩ := Cond.selects_spec hsel
  cases hcls.symm.trans q1
  cases (State.methodFound?_of_named hnamed hy).symm.trans q2
  cases hnamed.symm.trans q3
  have hselP : selectMethod e.platform s.vm cellB.cls mk = .method mk := by rw [Launch.admits_selectMethod X.admits]; exact q4
  obtain ⟨vm₁, X₁, hstep₁⟩ := X.invokevirtual hexec hown hlink hnamed hmethM hstM hkP hkPi hy (a := b) (cell := cellB) hcell
    (fun z h => by rw [h] at hobj; cases hobj) hselP hmethM habM hkP hkPi (g := g) hg (argsL := argsL) (rest := rest) (hlen _ hsigM) hstack hdg
  rcases hK m meth c ⟨T.setVm vm₁, locs, cells, slots⟩ { g with stack := rest } (.invokevirtual index) mk (Value.ref b :: argsL).toArray X₁ hg hsize hdg hW (X₁.named hnamed) (hpre vm₁ X₁.warmed) with ⟨v, B, X', hpost, hsteps⟩ | ⟨q, B, X', hpost, hsteps⟩
  · exact Or.inl ⟨v, vm₁, B, X₁.warmed, X', hpost, fun target h => hstep₁ _ fun acts => by rw [doInvoke_state]; exact hsteps.trans h⟩
  · exact Or.inr ⟨q, vm₁, B, X₁.warmed, X', hpost, hstep₁ _ fun acts => by rw [doInvoke_state]; exact hsteps⟩
theorem vx_callS (X : Stand p l e R s m args below meth c T locs cells slots) (hexec : p.tables.exec = Jvm.exec) {own : String} {index : Nat} {y : MethodName} {bytes : ByteArray} {maxL : Nat} {ret : Option FieldType}
    (hown : s.vm.findClass own = some m.cls) (hlink : (Cond.methodLink own index y).before args s = true) (hstat : (Cond.static y).before args s = true) (hinit : (Cond.initialized y.cls).before args s = true)
    (hcode : (Cond.code y bytes maxL ret).before args s = true) (hy : y.cls ≠ "java/lang/invoke/MethodHandle" ∧ y.cls ≠ "java/lang/invoke/VarHandle")
    {W9 : Nat} {Pre : Pt → Array Value → Prop} {Post : Pt → Array Value → Option Value → Pt → Prop} {PostX : Pt → Array Value → Addr → Pt → Prop} (hK : vx_Back l R p e below s args y 3 W9 Pre Post PostX)
    {g : JFrame} (hg : g.method = m) (hsize : g.locals.size = c.maxLocals) {argsL rest : List Value} (hlen : ∀ sig, parseMethodDescriptor y.desc = some sig → argsL.length = sig.parameters.length)
    (hstack : g.stack = argsL.reverse ++ rest) (hW : 2 * g.monitorRoom + (rest.map fun v => v.category).sum ≤ W9) (hdg : decode c.code g.pc = .ok (.invokestatic index, 3))
    (hpre : ∀ vm₁, s.WarmedH vm₁ → Pre ⟨T.setVm vm₁, locs, cells, slots⟩ argsL.toArray) :
    (∃ (v : Option Value) (vm₁ : Vm) (B : Pt), s.WarmedH vm₁ ∧ Stand p l e R s m args below meth c B.U B.locs B.cells B.slots ∧ Post ⟨T.setVm vm₁, locs, cells, slots⟩ argsL.toArray v B ∧
      ∀ target, Steps p.tables e below (B.U.setTop { g with pc := g.pc + 3, stack := v.toList ++ rest }) target → Steps p.tables e below (T.setTop g) target) ∨
    (∃ (q : Addr) (vm₁ : Vm) (B : Pt), s.WarmedH vm₁ ∧ Stand p l e R s m args below meth c B.U B.locs B.cells B.slots ∧ PostX ⟨T.setVm vm₁, locs, cells, slots⟩ argsL.toArray q B ∧
      Steps p.tables e below (T.setTop g) ((B.U.setTop { g with stack := rest }).pushFrame (.throwing q))) := by
  obtain ⟨mk, hnamed⟩ := Cond.code_named hcode
  obtain ⟨methM, cM, hmethM, -, -, -, -, -, -, hsigM⟩ := Cond.code_spec hnamed hcode
  have hstatic : methM.isStatic = true := Cond.static_spec hnamed hmethM hstat
  obtain ⟨kP, hkP, -⟩ := className_of_methodNamed hnamed
  have hinitP : kP.init = .initialized := Cond.initialized_spec (findClass_of_methodNamed hnamed) hkP hinit
  obtain ⟨vm₁, X₁, hstep₁⟩ := X.invokestatic hexec hown hlink hnamed hmethM hstatic hkP hinitP hy (g := g) hg (argsL := argsL) (rest := rest) (hlen _ hsigM) hstack hdg
  rcases hK m meth c ⟨T.setVm vm₁, locs, cells, slots⟩ { g with stack := rest } (.invokestatic index) mk argsL.toArray X₁ hg hsize hdg hW (X₁.named hnamed) (hpre vm₁ X₁.warmed) with ⟨v, B, X', hpost, hsteps⟩ | ⟨q, B, X', hpost, hsteps⟩
  · exact Or.inl ⟨v, vm₁, B, X₁.warmed, X', hpost, fun target h => hstep₁ _ fun acts => by rw [doInvoke_state]; exact hsteps.trans h⟩
  · exact Or.inr ⟨q, vm₁, B, X₁.warmed, X', hpost, hstep₁ _ fun acts => by rw [doInvoke_state]; exact hsteps⟩
end Calls
theorem vx_cls {s : State} {T : State} {vm₁ : Vm} {E : String} {k : ClassId} (hW : s.WarmedH vm₁) (h : (T.setVm vm₁).vm.findClass E = some k) : s.vm.findClass E = some k := by
  have h1 : vm₁.findClass E = some k := h
  rw [hW.alike.findClass] at h1
  exact h1
/-- the method's frame g, with q thrown over it -/
def vx_W (p : Program) (l : Launch) (e : Env) (R : Room) (s : State) (m : MethodId) (args : Array Value) (below : List Frame) (meth : Method) (c : Code) (H : Heap) (locs : List Loc) (cells slots : Nat) (Q : State → Prop) (g : JFrame) (q : Addr) : Prop :=
  ∀ T : State, T.heap = H → Stand p l e R s m args below meth c T locs cells slots → ∃ t, Steps p.tables e below ((T.setTop g).pushFrame (.throwing q)) t ∧ Q t
def vx_Run (p : Program) (l : Launch) (e : Env) (R : Room) (s : State) (m : MethodId) (args : Array Value) (below : List Frame) (meth : Method) (c : Code) (H : Heap) (locs : List Loc) (cells slots mc ms : Nat) (g : JFrame) (rest : List Value) (Qa : State → Outcome → State → Prop) (XC : String → State → State → Prop) (free : Addr → Prop) : Prop :=
  ∀ T : State, T.heap = H → Stand p l e R s m args below meth c T locs cells slots →
    (∃ (v : Option Value) (st₀ t T' : State) (L : List Loc), st₀.heap = H ∧ Stand p l e R s m args below meth c T' (locs ++ L) (cells + mc) (slots + ms) ∧ (∀ q ∈ L, free q.base) ∧ T'.heap = t.heap ∧ T'.vm = t.vm ∧ Qa st₀ (.returned v) t ∧
      Goes p e below T g T' { g with pc := g.pc + 3, stack := v.toList ++ rest }) ∨
    (∃ (q : Addr) (st₀ t T' : State) (L : List Loc) (E : String) (ce : Cell), st₀.heap = H ∧ Stand p l e R s m args below meth c T' (locs ++ L) (cells + mc) (slots + ms) ∧ (∀ z ∈ L, free z.base) ∧ T'.heap = t.heap ∧ T'.vm = t.vm ∧ XC E st₀ t ∧ t.heap[q]? = some ce ∧ ce.vm = .none ∧ s.vm.findClass E = some ce.cls ∧
      Steps p.tables e below (T.setTop g) ((T'.setTop { g with stack := rest }).pushFrame (.throwing q)))
def vx_X {S : Type} (px : S → Prop) (B : String → S → State → Prop) (A : Nat → Prop) : String → State → State → Prop := fun E st t => ∃ u : S, px u ∧ B E u t ∧ va_F A st t
section Runs
variable {p : Program} {l : Launch} {e : Env} {R : Room} {s : State} {m : MethodId} {args : Array Value} {below : List Frame} {meth : Method} {c : Code} {H : Heap} {locs : List Loc} {cells slots : Nat}
variable {y : MethodName} {bytes cc : ByteArray} {maxL nL mc ms n index : Nat} {ret : Option FieldType} {ws : List Cond} {rm : Room} {Pc : Array Value → State → Prop} {Qc : Array Value → State → Outcome → State → Prop} {XC : String → State → State → Prop} {free : Addr → Prop} {Ts : List Cond} {own C : String} {b : Addr} {As rest : List Value} {g : JFrame}
theorem vx_callBack (cb : CallB R s args own index y bytes maxL ret ws rm mc ms n) (hM : vx_Met l y ws rm Pc Qc XC mc ms free) (hbl : FrameBlind Pc) : vx_Back l R p e below s args y 3 8 (PreOf R mc ms Pc) (PostOf Qc mc ms free) (vx_Post XC mc ms free) := by
  obtain ⟨hrc, hrs, hfr, hlo, hws, hcw, -, hini, -⟩ := cb
  exact vx_back (bytes := bytes) (maxL := maxL) (ret := ret) hM hbl hrc hrs hfr hlo hws hcw (fun a' U hW => word_at hW (Or.inl (by first | rfl | simp [Cond.onTables, Cond.keeps, Cond.steady])) hini)
theorem vx_runV (S : CallFix p m c cc nL s args Ts own) (hM : vx_Met l y ws rm Pc Qc XC mc ms free) (cw : CallW R s args own C index y bytes maxL ret ws rm mc ms n) (hp : PreV s H C b Pc As)
    (hg : g.method = m) (hn : As.length = n) (hsize : g.locals.size = nL) (hstack : g.stack = As.reverse ++ .ref b :: rest) (hW : 2 * g.monitorRoom + (rest.map fun v => v.category).sum ≤ 8) (hdg : decode cc g.pc = .ok (.invokevirtual index, 3)) (hf : cells + mc ≤ R.cells ∧ slots + ms ≤ R.slots) :
    vx_Run p l e R s m args below meth c H locs cells slots mc ms g rest (Qc (Value.ref b :: As).toArray) XC free := by
  have hK : vx_Back l R p e below s args y 3 8 (PreOf R mc ms Pc) (PostOf Qc mc ms free) (vx_Post XC mc ms free) := vx_callBack cw.1 hM hp.1
  obtain ⟨⟨-, -, -, -, -, -, hcode, -, hy, hlen, hl⟩, hin, hse⟩ := cw
  obtain ⟨hx, hb, hml, ho, -⟩ := S
  obtain ⟨-, ⟨cellB, hcB, hoB, hclB⟩, hPc⟩ := hp
  intro T hT X
  rcases vx_callV X hx (C := C) (bytes := bytes) (maxL := maxL) (ret := ret) ho hl hin hse hcode hy hK (by rw [hT]; exact hcB) hoB hclB hg (hsize.trans hml.symm) (argsL := As) (rest := rest) (fun sig h => hn.trans (hlen sig h)) hstack hW (by rw [hb]; exact hdg)
    (fun vm₁ hW₁ => ⟨hf.1, hf.2, hPc (T.setVm vm₁) hT hW₁⟩) with ⟨v, vm₁, ⟨U', l2, c2, s2⟩, hW₁, X', ⟨g', mk, t, L, e1, e2, hq, h1, hL, h2, h3⟩, st⟩ | ⟨q, vm₁, ⟨U', l2, c2, s2⟩, hW₁, X', ⟨g', mk, t, L, E, ce, e1, e2, hq, hce, hcv, hcl, h1, hL, h2, h3⟩, st⟩
  · dsimp only [Pt.U, Pt.locs, Pt.cells, Pt.slots] at X' e1 e2 h1 h2 h3 st
    subst h1; subst h2; subst h3
    exact Or.inl ⟨v, (T.setVm vm₁).calling g' mk (Value.ref b :: As).toArray, t, U', L, hT, X', hL, e1, e2, hq, st⟩
  · dsimp only [Pt.U, Pt.locs, Pt.cells, Pt.slots] at X' e1 e2 h1 h2 h3 st hcl
    subst h1; subst h2; subst h3
    exact Or.inr ⟨q, (T.setVm vm₁).calling g' mk (Value.ref b :: As).toArray, t, U', L, E, ce, hT, X', hL, e1, e2, hq, hce, hcv, vx_cls hW₁ hcl, st⟩
theorem vx_runS (S : CallFix p m c cc nL s args Ts own) (hM : vx_Met l y ws rm Pc Qc XC mc ms free) (cw : CallB R s args own index y bytes maxL ret ws rm mc ms n ∧ (Cond.static y).before args s = true) (hp : PreS s H Pc As)
    (hg : g.method = m) (hn : As.length = n) (hsize : g.locals.size = nL) (hstack : g.stack = As.reverse ++ rest) (hW : 2 * g.monitorRoom + (rest.map fun v => v.category).sum ≤ 8) (hdg : decode cc g.pc = .ok (.invokestatic index, 3)) (hf : cells + mc ≤ R.cells ∧ slots + ms ≤ R.slots) :
    vx_Run p l e R s m args below meth c H locs cells slots mc ms g rest (Qc As.toArray) XC free := by
  have hK : vx_Back l R p e below s args y 3 8 (PreOf R mc ms Pc) (PostOf Qc mc ms free) (vx_Post XC mc ms free) := vx_callBack cw.1 hM hp.1
  obtain ⟨⟨-, -, -, -, -, -, hcode, hini, hy, hlen, hl⟩, hstt⟩ := cw
  obtain ⟨hx, hb, hml, ho, -⟩ := S
  intro T hT X
  rcases vx_callS X hx (bytes := bytes) (maxL := maxL) (ret := ret) ho hl hstt hini hcode hy hK hg (hsize.trans hml.symm) (argsL := As) (rest := rest) (fun sig h => hn.trans (hlen sig h)) hstack hW (by rw [hb]; exact hdg)
    (fun vm₁ hW₁ => ⟨hf.1, hf.2, hp.2 (T.setVm vm₁) hT hW₁⟩) with ⟨v, vm₁, ⟨U', l2, c2, s2⟩, hW₁, X', ⟨g', mk, t, L, e1, e2, hq, h1, hL, h2, h3⟩, st⟩ | ⟨q, vm₁, ⟨U', l2, c2, s2⟩, hW₁, X', ⟨g', mk, t, L, E, ce, e1, e2, hq, hce, hcv, hcl, h1, hL, h2, h3⟩, st⟩
  · dsimp only [Pt.U, Pt.locs, Pt.cells, Pt.slots] at X' e1 e2 h1 h2 h3 st
    subst h1; subst h2; subst h3
    exact Or.inl ⟨v, (T.setVm vm₁).calling g' mk As.toArray, t, U', L, hT, X', hL, e1, e2, hq, st⟩
  · dsimp only [Pt.U, Pt.locs, Pt.cells, Pt.slots] at X' e1 e2 h1 h2 h3 st hcl
    subst h1; subst h2; subst h3
    exact Or.inr ⟨q, (T.setVm vm₁).calling g' mk As.toArray, t, U', L, E, ce, hT, X', hL, e1, e2, hq, hce, hcv, vx_cls hW₁ hcl, st⟩
end Runs
section Rows
variable {p : Program} {l : Launch} {e : Env} {R : Room} {s : State} {m : MethodId} {args : Array Value} {below : List Frame} {meth : Method} {c : Code} {H : Heap} {locs : List Loc} {cells slots : Nat} {Q : State → Prop}
variable {mc ms : Nat} {free : Addr → Prop} {A0 A1 : Nat → Prop} {H0 : Heap} {a : Array Value} {pc : Nat} {ls : Array Slot} {st0 rest : List Value}
theorem vx_keep {st₀ t T' : State} {L : List Loc} (h0 : st₀.heap = H) (e1 : T'.heap = t.heap) (hS : va_S A0 H0 H locs) (hA : ∀ q, q < H.size → A1 q → A0 q) (hf : ∀ q, free q → A0 q) (hL : ∀ q ∈ L, free q.base) (hF : va_F A1 st₀ t) :
    H.size ≤ T'.heap.size ∧ (∀ q : Nat, q < H.size → ¬ A1 q → T'.heap[q]? = H[q]?) ∧ va_S A0 H0 T'.heap (locs ++ L) := by
  obtain ⟨hz, hk⟩ := hF
  rw [h0] at hz hk
  exact ⟨by rw [e1]; exact hz, fun q h1 h2 => by rw [e1]; exact hk q h1 h2,
    ⟨Nat.le_trans hS.1 (by rw [e1]; exact hz), fun q h1 h2 => by rw [e1, hk q (Nat.lt_of_lt_of_le h1 hS.1) (fun z => h2 (hA q (Nat.lt_of_lt_of_le h1 hS.1) z))]; exact hS.2.1 q h1 h2, fun q hq => by
      rcases List.mem_append.mp hq with h | h
      · exact hS.2.2 q h
      · exact hf _ (hL q h)⟩⟩
theorem vx_calli {S SX : Type} {post : Int32 → S → Prop} {px : SX → Prop} {B : S → State → Prop} {BX : String → SX → State → Prop} {AX : Nat → Prop} (hr : vx_Run p l e R s m args below meth c H locs cells slots mc ms (F0 m pc ls st0) rest (va_Qi post B A1 a) (vx_X px BX AX) free) (hS : va_S A0 H0 H locs) (hA : ∀ q, q < H.size → A1 q → A0 q) (hf : ∀ q, free q → A0 q) (hAX : ∀ q, q < H.size → AX q → A0 q)
    (kx : ∀ (E : String) (ce : Cell) (q9 : Addr) (u : SX) (t : State) (H1 : Heap) (locs1 : List Loc), t.heap = H1 → s.vm.Alike t.vm → px u → BX E u t → H.size ≤ H1.size → (∀ q : Nat, q < H.size → ¬ AX q → H1[q]? = H[q]?) → va_S A0 H0 H1 locs1 → H1[q9]? = some ce → ce.vm = .none → s.vm.findClass E = some ce.cls → vx_W p l e R s m args below meth c H1 locs1 (cells + mc) (slots + ms) Q (F0 m pc ls rest) q9)
    (kk : ∀ (r : Int32) (u : S) (t : State) (H1 : Heap) (locs1 : List Loc), t.heap = H1 → s.vm.Alike t.vm → post r u → B u t → H.size ≤ H1.size → (∀ q : Nat, q < H.size → ¬ A1 q → H1[q]? = H[q]?) → va_S A0 H0 H1 locs1 → W p l e R s m args below meth c H1 locs1 (cells + mc) (slots + ms) Q (F0 m (pc + 3) ls (.int r :: rest))) : W p l e R s m args below meth c H locs cells slots Q (F0 m pc ls st0) := by
  intro T hT X
  rcases hr T hT X with ⟨v, st₀, t, T', L, h0, X', hL, e1, e2, ⟨⟨r, u, hv, hp, hb⟩, hF⟩, st⟩ | ⟨q, st₀, t, T', L, E, ce, h0, X', hL, e1, e2, ⟨u, hp, hb, hF⟩, hce, hcv, hcl, st⟩
  · cases hv
    obtain ⟨k1, k2, k3⟩ := vx_keep h0 e1 hS hA hf hL hF
    obtain ⟨t2, a1, b1⟩ := kk r u t T'.heap (locs ++ L) e1.symm (by rw [← e2]; exact X'.warmed.alike) hp hb k1 k2 k3 T' rfl X'
    exact ⟨t2, st t2 a1, b1⟩
  · obtain ⟨k1, k2, k3⟩ := vx_keep h0 e1 hS hAX hf hL hF
    obtain ⟨t2, a1, b1⟩ := kx E ce q u t T'.heap (locs ++ L) e1.symm (by rw [← e2]; exact X'.warmed.alike) hp hb k1 k2 k3 (by rw [e1]; exact hce) hcv hcl T' rfl X'
    exact ⟨t2, st.trans a1, b1⟩
theorem vx_calll {S SX : Type} {post : Int64 → S → Prop} {px : SX → Prop} {B : S → State → Prop} {BX : String → SX → State → Prop} {AX : Nat → Prop} (hr : vx_Run p l e R s m args below meth c H locs cells slots mc ms (F0 m pc ls st0) rest (va_Ql post B A1 a) (vx_X px BX AX) free) (hS : va_S A0 H0 H locs) (hA : ∀ q, q < H.size → A1 q → A0 q) (hf : ∀ q, free q → A0 q) (hAX : ∀ q, q < H.size → AX q → A0 q)
    (kx : ∀ (E : String) (ce : Cell) (q9 : Addr) (u : SX) (t : State) (H1 : Heap) (locs1 : List Loc), t.heap = H1 → s.vm.Alike t.vm → px u → BX E u t → H.size ≤ H1.size → (∀ q : Nat, q < H.size → ¬ AX q → H1[q]? = H[q]?) → va_S A0 H0 H1 locs1 → H1[q9]? = some ce → ce.vm = .none → s.vm.findClass E = some ce.cls → vx_W p l e R s m args below meth c H1 locs1 (cells + mc) (slots + ms) Q (F0 m pc ls rest) q9)
    (kk : ∀ (r : Int64) (u : S) (t : State) (H1 : Heap) (locs1 : List Loc), t.heap = H1 → s.vm.Alike t.vm → post r u → B u t → H.size ≤ H1.size → (∀ q : Nat, q < H.size → ¬ A1 q → H1[q]? = H[q]?) → va_S A0 H0 H1 locs1 → W p l e R s m args below meth c H1 locs1 (cells + mc) (slots + ms) Q (F0 m (pc + 3) ls (.long r :: rest))) : W p l e R s m args below meth c H locs cells slots Q (F0 m pc ls st0) := by
  intro T hT X
  rcases hr T hT X with ⟨v, st₀, t, T', L, h0, X', hL, e1, e2, ⟨⟨r, u, hv, hp, hb⟩, hF⟩, st⟩ | ⟨q, st₀, t, T', L, E, ce, h0, X', hL, e1, e2, ⟨u, hp, hb, hF⟩, hce, hcv, hcl, st⟩
  · cases hv
    obtain ⟨k1, k2, k3⟩ := vx_keep h0 e1 hS hA hf hL hF
    obtain ⟨t2, a1, b1⟩ := kk r u t T'.heap (locs ++ L) e1.symm (by rw [← e2]; exact X'.warmed.alike) hp hb k1 k2 k3 T' rfl X'
    exact ⟨t2, st t2 a1, b1⟩
  · obtain ⟨k1, k2, k3⟩ := vx_keep h0 e1 hS hAX hf hL hF
    obtain ⟨t2, a1, b1⟩ := kx E ce q u t T'.heap (locs ++ L) e1.symm (by rw [← e2]; exact X'.warmed.alike) hp hb k1 k2 k3 (by rw [e1]; exact hce) hcv hcl T' rfl X'
    exact ⟨t2, st.trans a1, b1⟩
theorem vx_callf {S SX : Type} {post : UInt32 → S → Prop} {px : SX → Prop} {B : S → State → Prop} {BX : String → SX → State → Prop} {AX : Nat → Prop} (hr : vx_Run p l e R s m args below meth c H locs cells slots mc ms (F0 m pc ls st0) rest (va_Qf post B A1 a) (vx_X px BX AX) free) (hS : va_S A0 H0 H locs) (hA : ∀ q, q < H.size → A1 q → A0 q) (hf : ∀ q, free q → A0 q) (hAX : ∀ q, q < H.size → AX q → A0 q)
    (kx : ∀ (E : String) (ce : Cell) (q9 : Addr) (u : SX) (t : State) (H1 : Heap) (locs1 : List Loc), t.heap = H1 → s.vm.Alike t.vm → px u → BX E u t → H.size ≤ H1.size → (∀ q : Nat, q < H.size → ¬ AX q → H1[q]? = H[q]?) → va_S A0 H0 H1 locs1 → H1[q9]? = some ce → ce.vm = .none → s.vm.findClass E = some ce.cls → vx_W p l e R s m args below meth c H1 locs1 (cells + mc) (slots + ms) Q (F0 m pc ls rest) q9)
    (kk : ∀ (r : UInt32) (u : S) (t : State) (H1 : Heap) (locs1 : List Loc), t.heap = H1 → s.vm.Alike t.vm → post r u → B u t → H.size ≤ H1.size → (∀ q : Nat, q < H.size → ¬ A1 q → H1[q]? = H[q]?) → va_S A0 H0 H1 locs1 → W p l e R s m args below meth c H1 locs1 (cells + mc) (slots + ms) Q (F0 m (pc + 3) ls (.float r :: rest))) : W p l e R s m args below meth c H locs cells slots Q (F0 m pc ls st0) := by
  intro T hT X
  rcases hr T hT X with ⟨v, st₀, t, T', L, h0, X', hL, e1, e2, ⟨⟨r, u, hv, hp, hb⟩, hF⟩, st⟩ | ⟨q, st₀, t, T', L, E, ce, h0, X', hL, e1, e2, ⟨u, hp, hb, hF⟩, hce, hcv, hcl, st⟩
  · cases hv
    obtain ⟨k1, k2, k3⟩ := vx_keep h0 e1 hS hA hf hL hF
    obtain ⟨t2, a1, b1⟩ := kk r u t T'.heap (locs ++ L) e1.symm (by rw [← e2]; exact X'.warmed.alike) hp hb k1 k2 k3 T' rfl X'
    exact ⟨t2, st t2 a1, b1⟩
  · obtain ⟨k1, k2, k3⟩ := vx_keep h0 e1 hS hAX hf hL hF
    obtain ⟨t2, a1, b1⟩ := kx E ce q u t T'.heap (locs ++ L) e1.symm (by rw [← e2]; exact X'.warmed.alike) hp hb k1 k2 k3 (by rw [e1]; exact hce) hcv hcl T' rfl X'
    exact ⟨t2, st.trans a1, b1⟩
theorem vx_calld {S SX : Type} {post : UInt64 → S → Prop} {px : SX → Prop} {B : S → State → Prop} {BX : String → SX → State → Prop} {AX : Nat → Prop} (hr : vx_Run p l e R s m args below meth c H locs cells slots mc ms (F0 m pc ls st0) rest (va_Qd post B A1 a) (vx_X px BX AX) free) (hS : va_S A0 H0 H locs) (hA : ∀ q, q < H.size → A1 q → A0 q) (hf : ∀ q, free q → A0 q) (hAX : ∀ q, q < H.size → AX q → A0 q)
    (kx : ∀ (E : String) (ce : Cell) (q9 : Addr) (u : SX) (t : State) (H1 : Heap) (locs1 : List Loc), t.heap = H1 → s.vm.Alike t.vm → px u → BX E u t → H.size ≤ H1.size → (∀ q : Nat, q < H.size → ¬ AX q → H1[q]? = H[q]?) → va_S A0 H0 H1 locs1 → H1[q9]? = some ce → ce.vm = .none → s.vm.findClass E = some ce.cls → vx_W p l e R s m args below meth c H1 locs1 (cells + mc) (slots + ms) Q (F0 m pc ls rest) q9)
    (kk : ∀ (r : UInt64) (u : S) (t : State) (H1 : Heap) (locs1 : List Loc), t.heap = H1 → s.vm.Alike t.vm → post r u → B u t → H.size ≤ H1.size → (∀ q : Nat, q < H.size → ¬ A1 q → H1[q]? = H[q]?) → va_S A0 H0 H1 locs1 → W p l e R s m args below meth c H1 locs1 (cells + mc) (slots + ms) Q (F0 m (pc + 3) ls (.double r :: rest))) : W p l e R s m args below meth c H locs cells slots Q (F0 m pc ls st0) := by
  intro T hT X
  rcases hr T hT X with ⟨v, st₀, t, T', L, h0, X', hL, e1, e2, ⟨⟨r, u, hv, hp, hb⟩, hF⟩, st⟩ | ⟨q, st₀, t, T', L, E, ce, h0, X', hL, e1, e2, ⟨u, hp, hb, hF⟩, hce, hcv, hcl, st⟩
  · cases hv
    obtain ⟨k1, k2, k3⟩ := vx_keep h0 e1 hS hA hf hL hF
    obtain ⟨t2, a1, b1⟩ := kk r u t T'.heap (locs ++ L) e1.symm (by rw [← e2]; exact X'.warmed.alike) hp hb k1 k2 k3 T' rfl X'
    exact ⟨t2, st t2 a1, b1⟩
  · obtain ⟨k1, k2, k3⟩ := vx_keep h0 e1 hS hAX hf hL hF
    obtain ⟨t2, a1, b1⟩ := kx E ce q u t T'.heap (locs ++ L) e1.symm (by rw [← e2]; exact X'.warmed.alike) hp hb k1 k2 k3 (by rw [e1]; exact hce) hcv hcl T' rfl X'
    exact ⟨t2, st.trans a1, b1⟩
theorem vx_callv {S SX : Type} {post : S → Prop} {px : SX → Prop} {B : S → State → Prop} {BX : String → SX → State → Prop} {AX : Nat → Prop} (hr : vx_Run p l e R s m args below meth c H locs cells slots mc ms (F0 m pc ls st0) rest (va_Qv post B A1 a) (vx_X px BX AX) free) (hS : va_S A0 H0 H locs) (hA : ∀ q, q < H.size → A1 q → A0 q) (hf : ∀ q, free q → A0 q) (hAX : ∀ q, q < H.size → AX q → A0 q)
    (kx : ∀ (E : String) (ce : Cell) (q9 : Addr) (u : SX) (t : State) (H1 : Heap) (locs1 : List Loc), t.heap = H1 → s.vm.Alike t.vm → px u → BX E u t → H.size ≤ H1.size → (∀ q : Nat, q < H.size → ¬ AX q → H1[q]? = H[q]?) → va_S A0 H0 H1 locs1 → H1[q9]? = some ce → ce.vm = .none → s.vm.findClass E = some ce.cls → vx_W p l e R s m args below meth c H1 locs1 (cells + mc) (slots + ms) Q (F0 m pc ls rest) q9)
    (kk : ∀ (u : S) (t : State) (H1 : Heap) (locs1 : List Loc), t.heap = H1 → s.vm.Alike t.vm → post u → B u t → H.size ≤ H1.size → (∀ q : Nat, q < H.size → ¬ A1 q → H1[q]? = H[q]?) → va_S A0 H0 H1 locs1 → W p l e R s m args below meth c H1 locs1 (cells + mc) (slots + ms) Q (F0 m (pc + 3) ls (rest))) : W p l e R s m args below meth c H locs cells slots Q (F0 m pc ls st0) := by
  intro T hT X
  rcases hr T hT X with ⟨v, st₀, t, T', L, h0, X', hL, e1, e2, ⟨⟨u, hv, hp, hb⟩, hF⟩, st⟩ | ⟨q, st₀, t, T', L, E, ce, h0, X', hL, e1, e2, ⟨u, hp, hb, hF⟩, hce, hcv, hcl, st⟩
  · cases hv
    obtain ⟨k1, k2, k3⟩ := vx_keep h0 e1 hS hA hf hL hF
    obtain ⟨t2, a1, b1⟩ := kk u t T'.heap (locs ++ L) e1.symm (by rw [← e2]; exact X'.warmed.alike) hp hb k1 k2 k3 T' rfl X'
    exact ⟨t2, st t2 a1, b1⟩
  · obtain ⟨k1, k2, k3⟩ := vx_keep h0 e1 hS hAX hf hL hF
    obtain ⟨t2, a1, b1⟩ := kx E ce q u t T'.heap (locs ++ L) e1.symm (by rw [← e2]; exact X'.warmed.alike) hp hb k1 k2 k3 (by rw [e1]; exact hce) hcv hcl T' rfl X'
    exact ⟨t2, st.trans a1, b1⟩
/-- caught by the row x of this method's table; the rows ahead don't take it -/
theorem vx_catch {own name : String} {E : String} {ce : Cell} {q : Addr} (hown : s.vm.findClass own = some m.cls) (pre : List ExceptionTableEntry) (x : ExceptionTableEntry) (suf : List ExceptionTableEntry) (hsplit : c.exceptionTable.toList = pre ++ x :: suf)
    (hpass : ∀ z ∈ pre, covers z pc = false ∨ (z.catchType ≠ 0 ∧ ∃ nm : String, (Cond.classLink own z.catchType nm).before args s = true ∧ va_Nc E nm s)) (hx : covers x pc = true) (h0 : x.catchType ≠ 0)
    (hlink : (Cond.classLink own x.catchType name).before args s = true) (hcast : (Cond.castable E name).before args s = true) (hcell : H[q]? = some ce) (hv : ce.vm = .none) (hcl : s.vm.findClass E = some ce.cls)
    (kk : W p l e R s m args below meth c H locs cells slots Q (F0 m x.handlerPc ls [.ref q])) : vx_W p l e R s m args below meth c H locs cells slots Q (F0 m pc ls rest) q := by
  intro T hT X
  have hpl : e.platform.magicAccessors = ({} : Platform).magicAccessors := by rw [X.admits.platform]
  obtain ⟨c3, c4, hc3, hc4, hasg⟩ := Cond.castable_spec hcast
  cases Option.some.inj (hc3.symm.trans hcl)
  obtain ⟨c5, hc5, hcl5⟩ := Cond.classLink_spec hown hlink e.platform hpl
  cases Option.some.inj (hc4.symm.trans hc5)
  obtain ⟨vm', X', st⟩ := X.thenCaughtThrough q (g := F0 m pc ls rest) rfl (Steps.refl _) (by rw [hT]; exact hcell) (by rw [hv]; rfl) (by obtain ⟨k9, h9, -⟩ := Vm.findClass_spec hcl; exact ⟨k9, h9⟩) pre x suf hsplit
    (fun z hz => by
      rcases hpass z hz with h | ⟨hz0, nm, hl1, hn1⟩
      · exact Or.inl h
      · obtain ⟨c6, hc6, hcl6⟩ := Cond.classLink_spec hown hl1 e.platform hpl
        obtain ⟨a8, b8, h1, h2, h3⟩ := hn1
        cases Option.some.inj (h1.symm.trans hcl)
        cases Option.some.inj (h2.symm.trans hc6)
        exact Or.inr ⟨hz0, _, hcl6, h3⟩) hx (Or.inr ⟨h0, c4, hcl5, hasg⟩)
  obtain ⟨t, a1, b1⟩ := kk (T.setVm vm') hT X'
  exact ⟨t, st.trans a1, b1⟩
end Rows
section Ends
variable {p : Program} {l : Launch} {e : Env} {R : Room} {s : State} {m : MethodId} {args : Array Value} {below : List Frame} {meth : Method} {c : Code} {H : Heap} {locs : List Loc} {cells slots : Nat} {Q : State → Prop}
variable {mc ms : Nat} {free : Addr → Prop} {A0 A1 : Nat → Prop} {H0 : Heap} {a : Array Value} {ls : Array Slot} {st0 rest : List Value}
variable {Qc : Array Value → State → Outcome → State → Prop} {XC : String → State → State → Prop}
/-- what a body that may throw owes at its end -/
def vx_MQ (below : List Frame) (Qc : Array Value → State → Outcome → State → Prop) (XC : String → State → State → Prop) (a : Array Value) (s : State) (mc ms : Nat) (free : Addr → Prop) : State → Prop := fun t =>
  ∃ o, t.status = .running ∧ Ended t below o ∧ vx_Q Qc XC mc ms free a s o t
theorem vx_ret {g : JFrame} {mc ms : Nat} (k : W p l e R s m args below meth c H locs cells slots (MQ below Qc args s mc ms free) g) : W p l e R s m args below meth c H locs cells slots (vx_MQ below Qc XC args s mc ms free) g := by
  intro T hT X
  obtain ⟨t, a1, o, b1, b2, b3, b4⟩ := k T hT X
  exact ⟨t, a1, o, b1, b2, Or.inl ⟨b3, b4⟩⟩
/-- not caught here: it goes on to the caller -/
theorem vx_widen {g : JFrame} {q : Addr} {k n : Nat} (h1 : cells ≤ k) (h2 : slots ≤ n) (kk : vx_W p l e R s m args below meth c H locs k n Q g q) : vx_W p l e R s m args below meth c H locs cells slots Q g q := fun T hT X => kk T hT (stand_widen X h1 h2)
theorem vx_out {pc : Nat} {E : String} {ce : Cell} {q : Addr} {mc ms : Nat} (hout : ∀ x ∈ c.exceptionTable.toList, covers x pc = false) (hlocks : meth.locks = false) (hcell : H[q]? = some ce) (hv : ce.vm = .none) (hcl : s.vm.findClass E = some ce.cls)
    (hx : ∀ t : State, t.heap = H → s.vm.Alike t.vm → XC E s t) (hf : ∀ z ∈ locs, free z.base) (hc : cells ≤ mc) (hs : slots ≤ ms) :
    vx_W p l e R s m args below meth c H locs cells slots (vx_MQ below Qc XC args s mc ms free) (F0 m pc ls rest) q := by
  intro T hT X
  obtain ⟨st1, hrun, hend, hW, hsm⟩ := X.leaveThrown q (g := F0 m pc ls rest) rfl rfl rfl hout hlocks
  have hcell9 : (T.setFrames (.throwing q :: below)).heap[q]? = some ce := by
    show T.heap[q]? = some ce
    rw [hT]; exact hcell
  exact ⟨_, st1, .threw q, hrun, hend, Or.inr ⟨q, rfl, E, ce, locs, hx _ hT hW.alike, hcell9, hv, hcl, hW, hsm.mono hc hs, hf⟩⟩
theorem vx_frame {U : State} {k n : Nat} (h : s.sameButNew ({ U with vm := s.vm } : State) locs k n) : s.heap.size ≤ U.heap.size ∧ ∀ q : Nat, q < s.heap.size → (∀ z ∈ locs, z.base ≠ q) → U.heap[q]? = s.heap[q]? := by
  obtain ⟨-, h2, -, -, -, h6⟩ := h
  refine ⟨h2, fun q hq hz => ?_⟩
  obtain ⟨c9, e1, e2, e3, e4⟩ := h6 q _ (Array.getElem?_eq_getElem hq)
  have hs : c9.slots = (s.heap[q]).slots := Array.ext_getElem? fun i => e4 i fun hm => hz _ hm rfl
  have h9 : c9 = s.heap[q] := by
    rw [hs] at e2
    exact e2
  have e5 : U.heap[q]? = some c9 := e1
  rw [e5, h9, Array.getElem?_eq_getElem hq]
/-- the words of a throw but the four that speak of the heap -/
def vx_no (w : Cond) : Bool := decide (w ≠ .isRef (.static Bundle.tN "UNASSIGNED_STACK" Bundle.steD)) && decide (w ≠ .isRef (.static Bundle.tN "SUPPRESSED_SENTINEL" Bundle.listD)) && decide (w ≠ .laysStatic Bundle.tN "UNASSIGNED_STACK" Bundle.steD) && decide (w ≠ .laysStatic Bundle.tN "SUPPRESSED_SENTINEL" Bundle.listD)
def vx_at0 (own : String) (ic : Nat) (X : String) (names : List String) : List Cond := (Bundle.ownAtoms0 own ic X names).filter vx_no
def vx_atS (own : String) (ic : Nat) (X : String) (names : List String) : List Cond := (Bundle.ownAtoms own ic X names).filter vx_no
/-- a word that the tables alone decide, or a good one -/
def vx_ot (w : Cond) : Bool := w.onTables || goodWord w
theorem vx_ot_at {args a' : Array Value} {s U : State} {w : Cond} (hW : s.WarmedH U.vm) (hvm : s.vm = U.vm) (hg : vx_ot w = true) (h : w.before args s = true) : w.before a' U = true := by
  simp only [vx_ot, Bool.or_eq_true] at hg
  rcases hg with hg | hg
  · exact va_tabs hg hvm h
  · exact word_at hW (good_of_word hg) h
/-- a list's words: the good ones out of the method's own list, the others by premises of their own -/
theorem vx_hat {args : Array Value} {s : State} {L B : List Cond} (h1 : ∀ w ∈ L.filter goodWord, w.before args s = true) (h2 : ∀ w ∈ L.filter (fun w => !goodWord w), w ∈ B) (h3 : ∀ w ∈ B, w.before args s = true) : ∀ w ∈ L, w.before args s = true := by
  intro w hw
  by_cases g : goodWord w = true
  · exact h1 w (List.mem_filter.mpr ⟨hw, g⟩)
  · refine h3 w (h2 w (List.mem_filter.mpr ⟨hw, ?_⟩))
    show (!goodWord w) = true
    cases hgw : goodWord w
    · rfl
    · exact absurd hgw g
theorem vx_c {args : Array Value} {s : State} {w : Cond} {B : List Cond} (h : w.before args s = true) (t : ∀ w ∈ B, w.before args s = true) : ∀ w' ∈ w :: B, w'.before args s = true := fun w' h' => (List.mem_cons.mp h').elim (fun e => by rw [e]; exact h) (t w')
theorem vx_n {args : Array Value} {s : State} : ∀ w ∈ ([] : List Cond), w.before args s = true := fun _ h => nomatch h
theorem vx_own {args : Array Value} {s : State} {L : List Cond} (h1 : ∀ w ∈ L.filter vx_no, w.before args s = true)
    (hU : (Cond.isRef (.static Bundle.tN "UNASSIGNED_STACK" Bundle.steD)).before args s = true) (hN : (Cond.isRef (.static Bundle.tN "SUPPRESSED_SENTINEL" Bundle.listD)).before args s = true)
    (lU : (Cond.laysStatic Bundle.tN "UNASSIGNED_STACK" Bundle.steD).before args s = true) (lN : (Cond.laysStatic Bundle.tN "SUPPRESSED_SENTINEL" Bundle.listD).before args s = true) : ∀ w ∈ L, w.before args s = true := by
  intro w hw
  by_cases e1 : w = .isRef (.static Bundle.tN "UNASSIGNED_STACK" Bundle.steD)
  · rw [e1]; exact hU
  · by_cases e2 : w = .isRef (.static Bundle.tN "SUPPRESSED_SENTINEL" Bundle.listD)
    · rw [e2]; exact hN
    · by_cases e3 : w = .laysStatic Bundle.tN "UNASSIGNED_STACK" Bundle.steD
      · rw [e3]; exact lU
      · by_cases e4 : w = .laysStatic Bundle.tN "SUPPRESSED_SENTINEL" Bundle.listD
        · rw [e4]; exact lN
        · exact h1 w (List.mem_filter.mpr ⟨hw, by unfold vx_no; rw [decide_eq_true e1, decide_eq_true e2, decide_eq_true e3, decide_eq_true e4]; rfl⟩)
/-- where a static field lies, its class's statics cell in H -/
def vx_L (C n d : String) (A : Nat → Prop) (U : State) (H : Heap) : Prop := ∃ (c : ClassId) (k : Class) (i : Nat) (f : Field) (a : Nat) (cell : Cell), U.vm.findClass C = some c ∧ U.fieldFound? C n d = some (c, k, i, f) ∧ f.isStatic = true ∧ k.statics = some a ∧ H[a]? = some cell ∧ cell.vm.isStatics = true ∧ cell.cls = c ∧ f.slot < cell.slots.size ∧ k.staticTypes[f.slot]? = some f.type ∧ ¬ A a
theorem vx_L.moved {C n d : String} {A : Nat → Prop} {u U : State} {H : Heap} (hvm : u.vm.Alike U.vm) (h : vx_L C n d A u H) : vx_L C n d A U H := by
  obtain ⟨c, k, i, f, a, cell, h1, h2, h3, h4, h5, h6, h7, h8, h9, h10⟩ := h
  obtain ⟨k', hi', he⟩ := State.fieldFound?_setVm hvm h2
  exact ⟨c, k', i, f, a, cell, by rw [hvm.findClass]; exact h1, hi', h3, by rw [he]; exact h4, h5, h6, h7, h8, by rw [he]; exact h9, h10⟩
theorem vx_L.kept {C n d : String} {A : Nat → Prop} {U : State} {H H1 : Heap} (h : vx_L C n d A U H) (hq : ∀ a : Nat, a < H.size → ¬ A a → H1[a]? = H[a]?) : vx_L C n d A U H1 := by
  obtain ⟨c, k, i, f, a, cell, h1, h2, h3, h4, h5, h6, h7, h8, h9, h10⟩ := h
  exact ⟨c, k, i, f, a, cell, h1, h2, h3, h4, by rw [hq a (Array.getElem?_eq_some_iff.mp h5).1 h10]; exact h5, h6, h7, h8, h9, h10⟩
theorem vx_L.narrow {C n d : String} {A B : Nat → Prop} {U : State} {H : Heap} (h : vx_L C n d A U H) (hAB : ∀ q, B q → A q) : vx_L C n d B U H := by
  obtain ⟨c, k, i, f, a, cell, h1, h2, h3, h4, h5, h6, h7, h8, h9, h10⟩ := h
  exact ⟨c, k, i, f, a, cell, h1, h2, h3, h4, h5, h6, h7, h8, h9, fun z => h10 (hAB _ z)⟩
theorem vx_L.word {C n d : String} {A : Nat → Prop} {s : State} {args : Array Value} (h : vx_L C n d A s s.heap) : (Cond.laysStatic C n d).before args s = true := by
  obtain ⟨c, k, i, f, a, cell, h1, h2, h3, h4, h5, h6, h7, h8, h9, -⟩ := h
  show (Cond.laysStatic C n d).holds args s none s [] = true
  exact Cond.laysStatic_of h1 h2 h3 h4 h5 h6 h7 h8 h9
/-- .. and what it holds: null or some reference -/
def vx_Zq (C n d : String) (A : Nat → Prop) (U : State) (H : Heap) : Prop := va_Zq C n d A U H ∧ vx_L C n d A U H
theorem vx_Zq.moved {C n d : String} {A : Nat → Prop} {u U : State} {H : Heap} (hvm : u.vm.Alike U.vm) (h : vx_Zq C n d A u H) : vx_Zq C n d A U H := ⟨va_Zq.moved hvm h.1, vx_L.moved hvm h.2⟩
theorem vx_Zq.kept {C n d : String} {A : Nat → Prop} {U : State} {H H1 : Heap} (h : vx_Zq C n d A U H) (hq : ∀ a : Nat, a < H.size → ¬ A a → H1[a]? = H[a]?) : vx_Zq C n d A U H1 := ⟨va_Zq.kept h.1 hq, vx_L.kept h.2 hq⟩
theorem vx_Zq.narrow {C n d : String} {A B : Nat → Prop} {U : State} {H : Heap} (h : vx_Zq C n d A U H) (hAB : ∀ q, B q → A q) : vx_Zq C n d B U H := ⟨va_Zq.narrow h.1 hAB, vx_L.narrow h.2 hAB⟩
theorem vx_Zqof {args : Array Value} {s : State} {C n d : String} {A : Nat → Prop} (hl : (Cond.laysStatic C n d).before args s = true) (hini : (Cond.initialized C).before args s = true) (h : (Cond.isRef (.static C n d)).before args s = true) (hA : ∀ a : Nat, a < s.heap.size → ¬ A a) : vx_Zq C n d A s s.heap := by
  refine ⟨va_Zqof hl hini h hA, ?_⟩
  obtain ⟨c, k, i, f, a, cell, h1, h2, h3, h4, h5, h6, h7, h8, h9⟩ := Cond.laysStatic_spec hl
  exact ⟨c, k, i, f, a, cell, h1, h2, h3, h4, h5, h6, h7, h8, h9, hA a (Array.getElem?_eq_some_iff.mp h5).1⟩
theorem vx_isRef {C n d : String} {v : Value} {A : Nat → Prop} {s : State} {args : Array Value} (h : va_Z C n d v A s s.heap) (hv : v.isRef = true) : (Cond.isRef (.static C n d)).before args s = true := by
  obtain ⟨cf, kf, fi, f, a, cell, h1, h2, h3, h4, h5, h6, h7, -⟩ := h
  have he : (Term.static C n d).eval args s none [] s = some v := by
    simp [Term.eval, State.fieldNamed?, h1, h2, h4, h5, h6, h7]
  simp only [Cond.before, Cond.holds, Cond.value, he]
  cases v <;> simp_all [Value.isRef]
theorem vx_isRefq {C n d : String} {A : Nat → Prop} {s : State} {args : Array Value} (h : va_Zq C n d A s s.heap) : (Cond.isRef (.static C n d)).before args s = true := by
  rcases h with h | ⟨t, h⟩
  · exact vx_isRef h rfl
  · exact vx_isRef h rfl
/-- the same frame, seen from here: as if the method were called anew in this heap -/
theorem vx_rebase {T : State} (X : Stand p l e R s m args below meth c T locs cells slots) {R' : Room} (hf : R'.frames ≤ R.frames) (hl : R'.locals ≤ R.locals) (hc : cells + R'.cells ≤ R.cells) (hs : slots + R'.slots ≤ R.slots) :
    Stand p l e R' ((T.setVm s.vm).setFrames (.invoking m args :: below)) m args below meth c T [] 0 0 := by
  have htop : (T.setVm s.vm).topJava?.isSome := X.here.top
  have hF : ((T.setVm s.vm).setFrames (.invoking m args :: below)).frames = .invoking m args :: below := State.frames_setFrames _ (State.cur_lt_of_top htop)
  obtain ⟨g₀, hg0⟩ := Option.isSome_iff_exists.mp htop
  obtain ⟨r, hr⟩ := State.topJava?_eq_some.mp hg0
  have hl9 : e.platform.stackLimits (T.setVm s.vm).me = e.platform.stackLimits s.me := X.limits
  have hb9 : (T.setVm s.vm).me.stackBytes = s.me.stackBytes := X.bytes
  refine ⟨X.admits, X.cas, X.clock, hF, ?_, X.hears, X.method, X.code, X.here, X.tail, X.warmed, ?_, ?_, ?_⟩
  · have h := X.room
    have hU : ((T.setVm s.vm).setFrames (.invoking m args :: below)).localsInUse = s.localsInUse := by
      rw [State.localsInUse_invoking hF (meth := meth) (c := c) X.method X.code, State.localsInUse_invoking X.frames X.method X.code]
    simp only [State.hasRoom, Bool.and_eq_true, decide_eq_true_eq] at h ⊢
    obtain ⟨⟨⟨⟨h1, h2, h3, h4, h5, h6⟩, h7⟩, h8⟩, h9⟩ := h
    rw [X.frames, List.length_cons] at h2 h3
    have q1 := X.heapSize
    have q2 := X.used
    simp only [hF, hU, List.length_cons, State.stackLimits_setFrames, State.stackBytes_setFrames, hl9, hb9]
    refine ⟨⟨⟨⟨by omega, by omega, by omega, by omega, by omega, h6⟩, ?_⟩, ?_⟩, X.book⟩
    · show T.heap.size + R'.cells ≤ e.platform.maxCells
      omega
    · show T.slotsUsed + R'.slots ≤ e.platform.maxSlots
      omega
  · rw [State.stackLimits_setFrames]; rfl
  · rw [State.stackBytes_setFrames]; rfl
  · refine ⟨?_, Nat.le_refl _, Nat.le_refl _, ?_, ?_, fun a c9 h9 => ⟨c9, h9, rfl, rfl, fun _ _ => rfl⟩⟩
    · obtain ⟨t, ht, -⟩ := State.frames_cons hr
      show T.setVm s.vm = { ((T.setVm s.vm).setFrames (.invoking m args :: below)).setFrames (T.setVm s.vm).frames with heap := T.heap, slotsUsed := T.slotsUsed }
      rw [State.setFrames_setFrames, State.setFrames_self ht]
      rfl
    · show T.slotsUsed = T.slotsUsed + ((T.heap.toList.drop T.heap.size).map (·.slots.size)).sum
      rw [List.drop_eq_nil_of_le (Nat.le_of_eq Array.length_toList)]
      rfl
    · show ((T.heap.toList.drop T.heap.size).map (·.slots.size)).sum ≤ 0
      rw [List.drop_eq_nil_of_le (Nat.le_of_eq Array.length_toList)]
      exact Nat.le_refl _
/-- 'throw new E()': new; dup; invokespecial; athrow -/
theorem vx_throw0 {cc : ByteArray} {pc : Nat} (hexec : p.tables.exec = Jvm.exec) (hb : c.code = cc) (hl : l.stackTraces = false) {own cls : String} {names : List String} {ik ic mc ms : Nat} {A : Nat → Prop}
    (hown : s.vm.findClass own = some m.cls) (hcls : Bundle.fit cls = true) (hnames : ∀ n ∈ names, Bundle.fit n = true)
    (hk : (Cond.classLink own ik cls).before args s = true) (hini : (Cond.initialized cls).before args s = true) (hat : ∀ w ∈ vx_at0 own ic cls names, w.before args s = true)
    (hgood : ∀ w ∈ Cond.classLink own ik cls :: Cond.initialized cls :: vx_at0 own ic cls names, vx_ot w = true)
    (hU : vx_Zq Bundle.tN "UNASSIGNED_STACK" Bundle.steD A s s.heap) (hN : vx_Zq Bundle.tN "SUPPRESSED_SENTINEL" Bundle.listD A s s.heap) (hS : va_S A s.heap H locs) (hsize : ls.size = c.maxLocals)
    (d0 : decode cc pc = .ok (.new ik, 3)) (d3 : decode cc (pc + 3) = .ok (.dup, 1)) (d4 : decode cc (pc + 4) = .ok (.invokespecial ic, 3)) (d7 : decode cc (pc + 7) = .ok (.athrow, 1))
    (hout : ∀ x ∈ c.exceptionTable.toList, covers x (pc + 7) = false)
    (hRframes : names.length + 3 < R.frames) (hRlocals : (rest.map fun v => v.category).sum + (13 * (names.length + 1) + 42) ≤ R.locals) (hRcells : cells + 1 ≤ R.cells) (hRslots : slots + 6 ≤ R.slots) (hlocks : meth.locks = false)
    (hx : ∀ t : State, s.vm.Alike t.vm → H.size ≤ t.heap.size → (∀ q : Nat, q < H.size → t.heap[q]? = H[q]?) → XC cls s t)
    (hf : ∀ z ∈ locs, free z.base) (hc : cells + 1 ≤ mc) (hs : slots + 6 ≤ ms) :
    W p l e R s m args below meth c H locs cells slots (vx_MQ below Qc XC args s mc ms free) (F0 m pc ls rest) := by
  intro T hT X
  have htr : e.platform.stackTraces = false := (show e.platform.stackTraces = l.stackTraces by rw [X.admits.platform]).trans hl
  have Y := vx_rebase X (R' := { frames := R.frames, locals := R.locals, cells := 1, slots := 6 }) (Nat.le_refl _) (Nat.le_refl _) hRcells hRslots
  obtain ⟨s', hA⟩ : ∃ z, z = (T.setVm s.vm).setFrames (.invoking m args :: below) := ⟨_, rfl⟩
  rw [← hA] at Y
  have hvm : s'.vm = s.vm := by rw [hA]; rfl
  have hhp : s'.heap = H := by rw [hA]; exact hT
  have hW0 : s.WarmedH s'.vm := by rw [hvm]; exact State.WarmedH.refl s
  have hat' : ∀ w ∈ vx_at0 own ic cls names, w.before args s' = true := fun w hw => vx_ot_at hW0 hvm.symm (hgood w (List.mem_cons_of_mem _ (List.mem_cons_of_mem _ hw))) (hat w hw)
  have hk' : (Cond.classLink own ik cls).before args s' = true := vx_ot_at hW0 hvm.symm (hgood _ List.mem_cons_self) hk
  have hini' : (Cond.initialized cls).before args s' = true := vx_ot_at hW0 hvm.symm (hgood _ (List.mem_cons_of_mem _ List.mem_cons_self)) hini
  have hU' : vx_Zq Bundle.tN "UNASSIGNED_STACK" Bundle.steD A s' s'.heap := by rw [hhp]; exact vx_Zq.moved hW0.alike (hU.kept hS.2.1)
  have hN' : vx_Zq Bundle.tN "SUPPRESSED_SENTINEL" Bundle.listD A s' s'.heap := by rw [hhp]; exact vx_Zq.moved hW0.alike (hN.kept hS.2.1)
  have h : ∀ w ∈ Bundle.ownAtoms0 own ic cls names, w.before args s' = true := vx_own hat' (vx_isRefq hU'.1) (vx_isRefq hN'.1) hU'.2.word hN'.2.word
  have hown' : s'.vm.findClass own = some m.cls := by rw [hvm]; exact hown
  have hins : (Cond.instantiable cls 6).before args s' = true := h _ (by simp [Bundle.ownAtoms0])
  obtain ⟨vm₁, cX, kX, hfX, hkX, -, -, X₁, st1⟩ := Y.newCold hexec (own := own) (C := cls) (index := ik) (n := 6) hown' hk' hins hini'
    (g := F0 m pc ls rest) rfl (by rw [hb]; exact d0) (Nat.le_refl _) (Nat.le_refl _)
  generalize hT1 : (T.setVm vm₁).pushCell { cls := cX, slots := kX.instanceTypes.map defaultValue, vm := .none } = T1 at X₁ st1
  have hcat : (Value.ref T.heap.size).category = 1 := rfl
  have hcellA : T1.heap[T.heap.size]? = some (freshCell cX kX) := by rw [← hT1]; exact State.heap_pushCell_size _ _
  have d3' : decode c.code (pc + 3) = .ok (.dup, 1) := by rw [hb]; exact d3
  obtain ⟨U, hsteps, hrun, hend, hW, hsame, ce, hce, hO⟩ := X₁.ctorThrow0 hexec htr (own := own) (cls := cls) (names := names) (ic := ic) hown' hcls hnames h (fun x hx => nomatch hx) hfX hkX hcellA (by rw [hhp, hT]; exact Nat.le_refl _)
    (g := { method := m, pc := pc + 4, locals := ls, stack := .ref T.heap.size :: .ref T.heap.size :: rest, locked := none }) rfl hsize rfl rfl (rest := rest) rfl
    (by rw [hb]; exact d4) (by rw [hb]; exact d7) hout hRframes (by simp only [List.map_cons, List.sum_cons, hcat]; omega) hlocks
  obtain ⟨f1, f2⟩ := vx_frame hsame
  rw [hhp] at f1 f2
  have hWs : s.WarmedH U.vm := State.WarmedH.trans hW0 hW
  have hcl : s.vm.findClass cls = some ce.cls := by
    have h9 := hO.cls
    rw [hvm] at h9
    exact h9
  have hall : s.sameButNew ({ U with vm := s.vm } : State) locs mc ms := by
    subst hA
    obtain ⟨e1, e2⟩ := hsame
    rw [State.setFrames_setFrames] at e1
    have h2 : (T.setVm s.vm).sameButNew ({ U with vm := s.vm } : State) [] (0 + 1) (0 + 6) := ⟨e1, e2⟩
    have h3 := X.same.trans h2
    rw [List.append_nil] at h3
    exact h3.mono hc hs
  refine ⟨U, ?_, .threw T.heap.size, hrun, hend, Or.inr ⟨T.heap.size, rfl, cls, ce, locs, hx U hWs.alike f1 (fun q hq => f2 q hq (fun z hz => nomatch hz)), hce, hO.vm, hcl, hWs, hall, hf⟩⟩
  refine st1 _ ?_
  show Steps p.tables e below (T1.setTop { method := m, pc := pc + 3, locals := ls, stack := .ref T.heap.size :: rest, locked := none }) _
  jvm_step X₁.here [X₁.here.top, hexec, d3', Value.category]
  exact hsteps
/-- 'throw new E("text")': new; dup; ldc; invokespecial; athrow -/
theorem vx_throwS {cc : ByteArray} {pc : Nat} (hexec : p.tables.exec = Jvm.exec) (hb : c.code = cc) (hl : l.stackTraces = false) {own cls text : String} {names : List String} {ik is ic mc ms sa : Nat} {A : Nat → Prop}
    (hown : s.vm.findClass own = some m.cls) (hcls : Bundle.fit cls = true) (hnames : ∀ n ∈ names, Bundle.fit n = true)
    (hk : (Cond.classLink own ik cls).before args s = true) (hini : (Cond.initialized cls).before args s = true) (hstr : vk_R own is text sa s) (hat : ∀ w ∈ vx_atS own ic cls names, w.before args s = true)
    (hgood : ∀ w ∈ Cond.classLink own ik cls :: Cond.initialized cls :: vx_atS own ic cls names, vx_ot w = true)
    (hU : vx_Zq Bundle.tN "UNASSIGNED_STACK" Bundle.steD A s s.heap) (hN : vx_Zq Bundle.tN "SUPPRESSED_SENTINEL" Bundle.listD A s s.heap) (hS : va_S A s.heap H locs) (hsize : ls.size = c.maxLocals)
    (d0 : decode cc pc = .ok (.new ik, 3)) (d3 : decode cc (pc + 3) = .ok (.dup, 1)) (d4 : decode cc (pc + 4) = .ok (.ldc is, 2)) (d6 : decode cc (pc + 6) = .ok (.invokespecial ic, 3)) (d9 : decode cc (pc + 9) = .ok (.athrow, 1))
    (hout : ∀ x ∈ c.exceptionTable.toList, covers x (pc + 9) = false)
    (hRframes : names.length + 3 < R.frames) (hRlocals : (rest.map fun v => v.category).sum + (13 * (names.length + 1) + 43) ≤ R.locals) (hRcells : cells + 1 ≤ R.cells) (hRslots : slots + 6 ≤ R.slots) (hlocks : meth.locks = false)
    (hx : ∀ t : State, s.vm.Alike t.vm → H.size ≤ t.heap.size → (∀ q : Nat, q < H.size → t.heap[q]? = H[q]?) → XC cls s t)
    (hf : ∀ z ∈ locs, free z.base) (hc : cells + 1 ≤ mc) (hs : slots + 6 ≤ ms) :
    W p l e R s m args below meth c H locs cells slots (vx_MQ below Qc XC args s mc ms free) (F0 m pc ls rest) := by
  intro T hT X
  have htr : e.platform.stackTraces = false := (show e.platform.stackTraces = l.stackTraces by rw [X.admits.platform]).trans hl
  have Y := vx_rebase X (R' := { frames := R.frames, locals := R.locals, cells := 1, slots := 6 }) (Nat.le_refl _) (Nat.le_refl _) hRcells hRslots
  obtain ⟨s', hA⟩ : ∃ z, z = (T.setVm s.vm).setFrames (.invoking m args :: below) := ⟨_, rfl⟩
  rw [← hA] at Y
  have hvm : s'.vm = s.vm := by rw [hA]; rfl
  have hhp : s'.heap = H := by rw [hA]; exact hT
  have hW0 : s.WarmedH s'.vm := by rw [hvm]; exact State.WarmedH.refl s
  have hat' : ∀ w ∈ vx_atS own ic cls names, w.before args s' = true := fun w hw => vx_ot_at hW0 hvm.symm (hgood w (List.mem_cons_of_mem _ (List.mem_cons_of_mem _ hw))) (hat w hw)
  have hk' : (Cond.classLink own ik cls).before args s' = true := vx_ot_at hW0 hvm.symm (hgood _ List.mem_cons_self) hk
  have hini' : (Cond.initialized cls).before args s' = true := vx_ot_at hW0 hvm.symm (hgood _ (List.mem_cons_of_mem _ List.mem_cons_self)) hini
  have hU' : vx_Zq Bundle.tN "UNASSIGNED_STACK" Bundle.steD A s' s'.heap := by rw [hhp]; exact vx_Zq.moved hW0.alike (hU.kept hS.2.1)
  have hN' : vx_Zq Bundle.tN "SUPPRESSED_SENTINEL" Bundle.listD A s' s'.heap := by rw [hhp]; exact vx_Zq.moved hW0.alike (hN.kept hS.2.1)
  have h : ∀ w ∈ Bundle.ownAtoms own ic cls names, w.before args s' = true := vx_own hat' (vx_isRefq hU'.1) (vx_isRefq hN'.1) hU'.2.word hN'.2.word
  have hown' : s'.vm.findClass own = some m.cls := by rw [hvm]; exact hown
  have hins : (Cond.instantiable cls 6).before args s' = true := h _ (by simp [Bundle.ownAtoms])
  obtain ⟨vm₁, cX, kX, hfX, hkX, -, -, X₁, st1⟩ := Y.newCold hexec (own := own) (C := cls) (index := ik) (n := 6) hown' hk' hins hini'
    (g := F0 m pc ls rest) rfl (by rw [hb]; exact d0) (Nat.le_refl _) (Nat.le_refl _)
  generalize hT1 : (T.setVm vm₁).pushCell { cls := cX, slots := kX.instanceTypes.map defaultValue, vm := .none } = T1 at X₁ st1
  have hcat : (Value.ref T.heap.size).category = 1 := rfl
  have hcellA : T1.heap[T.heap.size]? = some (freshCell cX kX) := by rw [← hT1]; exact State.heap_pushCell_size _ _
  have d3' : decode c.code (pc + 3) = .ok (.dup, 1) := by rw [hb]; exact d3
  have d4' : decode c.code (pc + 4) = .ok (.ldc is, 2) := by rw [hb]; exact d4
  have hstr' : vk_R own is text sa s' := vk_R.warm hW0 hstr
  obtain ⟨U, hsteps, hrun, hend, hW, hsame, ce, hce, hO⟩ := X₁.ctorThrowS hexec htr (own := own) (cls := cls) (names := names) (ic := ic) hown' hcls hnames h (fun x hx => nomatch hx) hfX hkX hcellA (by rw [hhp, hT]; exact Nat.le_refl _) (msg := .ref sa) rfl
    (g := { method := m, pc := pc + 6, locals := ls, stack := .ref sa :: .ref T.heap.size :: .ref T.heap.size :: rest, locked := none }) rfl hsize rfl rfl (rest := rest) rfl
    (by rw [hb]; exact d6) (by rw [hb]; exact d9) hout hRframes (by simp only [List.map_cons, List.sum_cons, hcat]; omega) hlocks
  obtain ⟨f1, f2⟩ := vx_frame hsame
  rw [hhp] at f1 f2
  have hWs : s.WarmedH U.vm := State.WarmedH.trans hW0 hW
  have hcl : s.vm.findClass cls = some ce.cls := by
    have h9 := hO.cls
    rw [hvm] at h9
    exact h9
  have hall : s.sameButNew ({ U with vm := s.vm } : State) locs mc ms := by
    subst hA
    obtain ⟨e1, e2⟩ := hsame
    rw [State.setFrames_setFrames] at e1
    have h2 : (T.setVm s.vm).sameButNew ({ U with vm := s.vm } : State) [] (0 + 1) (0 + 6) := ⟨e1, e2⟩
    have h3 := X.same.trans h2
    rw [List.append_nil] at h3
    exact h3.mono hc hs
  refine ⟨U, ?_, .threw T.heap.size, hrun, hend, Or.inr ⟨T.heap.size, rfl, cls, ce, locs, hx U hWs.alike f1 (fun q hq => f2 q hq (fun z hz => nomatch hz)), hce, hO.vm, hcl, hWs, hall, hf⟩⟩
  refine st1 _ ?_
  show Steps p.tables e below (T1.setTop { method := m, pc := pc + 3, locals := ls, stack := .ref T.heap.size :: rest, locked := none }) _
  jvm_step X₁.here [X₁.here.top, hexec, d3', Value.category]
  exact X₁.ldcString hexec (own := own) (text := text) (index := is) (a := sa) hown' hstr'.1 hstr'.2
    (g := { method := m, pc := pc + 4, locals := ls, stack := .ref T.heap.size :: .ref T.heap.size :: rest, locked := none }) rfl d4' _ hsteps
/-- 'throw new E("text")', the text by a wide index -/
theorem vx_throwSW {cc : ByteArray} {pc : Nat} (hexec : p.tables.exec = Jvm.exec) (hb : c.code = cc) (hl : l.stackTraces = false) {own cls text : String} {names : List String} {ik is ic mc ms sa : Nat} {A : Nat → Prop}
    (hown : s.vm.findClass own = some m.cls) (hcls : Bundle.fit cls = true) (hnames : ∀ n ∈ names, Bundle.fit n = true)
    (hk : (Cond.classLink own ik cls).before args s = true) (hini : (Cond.initialized cls).before args s = true) (hstr : vk_R own is text sa s) (hat : ∀ w ∈ vx_atS own ic cls names, w.before args s = true)
    (hgood : ∀ w ∈ Cond.classLink own ik cls :: Cond.initialized cls :: vx_atS own ic cls names, vx_ot w = true)
    (hU : vx_Zq Bundle.tN "UNASSIGNED_STACK" Bundle.steD A s s.heap) (hN : vx_Zq Bundle.tN "SUPPRESSED_SENTINEL" Bundle.listD A s s.heap) (hS : va_S A s.heap H locs) (hsize : ls.size = c.maxLocals)
    (d0 : decode cc pc = .ok (.new ik, 3)) (d3 : decode cc (pc + 3) = .ok (.dup, 1)) (d4 : decode cc (pc + 4) = .ok (.ldc_w is, 3)) (d7 : decode cc (pc + 7) = .ok (.invokespecial ic, 3)) (d10 : decode cc (pc + 10) = .ok (.athrow, 1))
    (hout : ∀ x ∈ c.exceptionTable.toList, covers x (pc + 10) = false)
    (hRframes : names.length + 3 < R.frames) (hRlocals : (rest.map fun v => v.category).sum + (13 * (names.length + 1) + 43) ≤ R.locals) (hRcells : cells + 1 ≤ R.cells) (hRslots : slots + 6 ≤ R.slots) (hlocks : meth.locks = false)
    (hx : ∀ t : State, s.vm.Alike t.vm → H.size ≤ t.heap.size → (∀ q : Nat, q < H.size → t.heap[q]? = H[q]?) → XC cls s t)
    (hf : ∀ z ∈ locs, free z.base) (hc : cells + 1 ≤ mc) (hs : slots + 6 ≤ ms) :
    W p l e R s m args below meth c H locs cells slots (vx_MQ below Qc XC args s mc ms free) (F0 m pc ls rest) := by
  intro T hT X
  have htr : e.platform.stackTraces = false := (show e.platform.stackTraces = l.stackTraces by rw [X.admits.platform]).trans hl
  have Y := vx_rebase X (R' := { frames := R.frames, locals := R.locals, cells := 1, slots := 6 }) (Nat.le_refl _) (Nat.le_refl _) hRcells hRslots
  obtain ⟨s', hA⟩ : ∃ z, z = (T.setVm s.vm).setFrames (.invoking m args :: below) := ⟨_, rfl⟩
  rw [← hA] at Y
  have hvm : s'.vm = s.vm := by rw [hA]; rfl
  have hhp : s'.heap = H := by rw [hA]; exact hT
  have hW0 : s.WarmedH s'.vm := by rw [hvm]; exact State.WarmedH.refl s
  have hat' : ∀ w ∈ vx_atS own ic cls names, w.before args s' = true := fun w hw => vx_ot_at hW0 hvm.symm (hgood w (List.mem_cons_of_mem _ (List.mem_cons_of_mem _ hw))) (hat w hw)
  have hk' : (Cond.classLink own ik cls).before args s' = true := vx_ot_at hW0 hvm.symm (hgood _ List.mem_cons_self) hk
  have hini' : (Cond.initialized cls).before args s' = true := vx_ot_at hW0 hvm.symm (hgood _ (List.mem_cons_of_mem _ List.mem_cons_self)) hini
  have hU' : vx_Zq Bundle.tN "UNASSIGNED_STACK" Bundle.steD A s' s'.heap := by rw [hhp]; exact vx_Zq.moved hW0.alike (hU.kept hS.2.1)
  have hN' : vx_Zq Bundle.tN "SUPPRESSED_SENTINEL" Bundle.listD A s' s'.heap := by rw [hhp]; exact vx_Zq.moved hW0.alike (hN.kept hS.2.1)
  have h : ∀ w ∈ Bundle.ownAtoms own ic cls names, w.before args s' = true := vx_own hat' (vx_isRefq hU'.1) (vx_isRefq hN'.1) hU'.2.word hN'.2.word
  have hown' : s'.vm.findClass own = some m.cls := by rw [hvm]; exact hown
  have hins : (Cond.instantiable cls 6).before args s' = true := h _ (by simp [Bundle.ownAtoms])
  obtain ⟨vm₁, cX, kX, hfX, hkX, -, -, X₁, st1⟩ := Y.newCold hexec (own := own) (C := cls) (index := ik) (n := 6) hown' hk' hins hini'
    (g := F0 m pc ls rest) rfl (by rw [hb]; exact d0) (Nat.le_refl _) (Nat.le_refl _)
  generalize hT1 : (T.setVm vm₁).pushCell { cls := cX, slots := kX.instanceTypes.map defaultValue, vm := .none } = T1 at X₁ st1
  have hcat : (Value.ref T.heap.size).category = 1 := rfl
  have hcellA : T1.heap[T.heap.size]? = some (freshCell cX kX) := by rw [← hT1]; exact State.heap_pushCell_size _ _
  have d3' : decode c.code (pc + 3) = .ok (.dup, 1) := by rw [hb]; exact d3
  have d4' : decode c.code (pc + 4) = .ok (.ldc_w is, 3) := by rw [hb]; exact d4
  have hstr' : vk_R own is text sa s' := vk_R.warm hW0 hstr
  obtain ⟨U, hsteps, hrun, hend, hW, hsame, ce, hce, hO⟩ := X₁.ctorThrowS hexec htr (own := own) (cls := cls) (names := names) (ic := ic) hown' hcls hnames h (fun x hx => nomatch hx) hfX hkX hcellA (by rw [hhp, hT]; exact Nat.le_refl _) (msg := .ref sa) rfl
    (g := { method := m, pc := pc + 7, locals := ls, stack := .ref sa :: .ref T.heap.size :: .ref T.heap.size :: rest, locked := none }) rfl hsize rfl rfl (rest := rest) rfl
    (by rw [hb]; exact d7) (by rw [hb]; exact d10) hout hRframes (by simp only [List.map_cons, List.sum_cons, hcat]; omega) hlocks
  obtain ⟨f1, f2⟩ := vx_frame hsame
  rw [hhp] at f1 f2
  have hWs : s.WarmedH U.vm := State.WarmedH.trans hW0 hW
  have hcl : s.vm.findClass cls = some ce.cls := by
    have h9 := hO.cls
    rw [hvm] at h9
    exact h9
  have hall : s.sameButNew ({ U with vm := s.vm } : State) locs mc ms := by
    subst hA
    obtain ⟨e1, e2⟩ := hsame
    rw [State.setFrames_setFrames] at e1
    have h2 : (T.setVm s.vm).sameButNew ({ U with vm := s.vm } : State) [] (0 + 1) (0 + 6) := ⟨e1, e2⟩
    have h3 := X.same.trans h2
    rw [List.append_nil] at h3
    exact h3.mono hc hs
  refine ⟨U, ?_, .threw T.heap.size, hrun, hend, Or.inr ⟨T.heap.size, rfl, cls, ce, locs, hx U hWs.alike f1 (fun q hq => f2 q hq (fun z hz => nomatch hz)), hce, hO.vm, hcl, hWs, hall, hf⟩⟩
  refine st1 _ ?_
  show Steps p.tables e below (T1.setTop { method := m, pc := pc + 3, locals := ls, stack := .ref T.heap.size :: rest, locked := none }) _
  jvm_step X₁.here [X₁.here.top, hexec, d3', Value.category]
  exact X₁.ldcStringW hexec (own := own) (text := text) (index := is) (a := sa) hown' hstr'.1 hstr'.2
    (g := { method := m, pc := pc + 4, locals := ls, stack := .ref T.heap.size :: .ref T.heap.size :: rest, locked := none }) rfl d4' _ hsteps
end Ends
section Bodies
variable {l : Launch}
theorem vx_ofW {y : MethodName} {ws ws' : List Cond} {rm : Room} {Pc : Array Value → State → Prop} {Qc : Array Value → State → Outcome → State → Prop} {XC : String → State → State → Prop} {mc ms : Nat} {free : Addr → Prop} {cc : ByteArray} {maxL : Nat} {ret : Option FieldType}
    (hy : plainName y.cls = true) (hw : ws = Cond.code y cc maxL ret :: ws')
    (body : ∀ p e s m args below meth c s₁, BodyLoose p l y (headSpec ws rm) cc maxL ret e s m args below meth c s₁ → c.maxLocals = maxL → (∀ x ∈ c.exceptionTable.toList, False) → Pc args s →
      W p l e (headSpec ws rm).room s m args below meth c s.heap [] 0 0 (vx_MQ below Qc XC args s mc ms free) (entryFrame m args maxL)) : vx_Met l y ws rm Pc Qc XC mc ms free := by
  refine MetFree.of_bodyS (code := cc) (maxLocals := maxL) (ret := ret) hy ?_ ?_
  · intro args s m h hn
    obtain ⟨meth, c, h1, h2, h3, h4, h5, h6, -, -⟩ := Cond.code_spec hn (atoms_spec (ws := ws) h _ (by rw [hw]; exact List.mem_cons_self))
    exact ⟨meth, c, h1, h2, h3, h4, h5, h6⟩
  · intro p e s m args below meth c s₁ B hml hP _
    have hh0 : s₁.heap = s.heap := by rw [B.state]; rfl
    have ht : ∀ x ∈ c.exceptionTable.toList, False := by
      obtain ⟨meth9, c9, h1, h2, -, -, -, -, h7, -⟩ := Cond.code_spec B.named (atoms_spec (ws := ws) B.pre _ (by rw [hw]; exact List.mem_cons_self))
      cases Option.some.inj (h1.symm.trans B.method)
      cases Option.some.inj (h2.symm.trans (Stand.of_body B).code)
      intro x hx
      rw [Array.isEmpty_iff.mp h7] at hx
      cases hx
    obtain ⟨t, a1, o, b1, b2, b3⟩ := body p e s m args below meth c s₁ B hml ht hP s₁ hh0 (Stand.of_body B)
    exact ⟨t, o, a1, b1, b2, b3⟩
/-- the table of a body with handlers -/
theorem vx_table {p : Program} {x y : MethodName} {S : Spec} {cc bytes : ByteArray} {maxL maxL' : Nat} {ret ret' : Option FieldType} {e : Env} {s s₁ : State} {m : MethodId} {args : Array Value} {below : List Frame} {meth : Method} {c : Code} {hh : List (Nat × Nat × Nat × Nat)}
    (B : BodyLoose p l y S cc maxL ret e s m args below meth c s₁) (h : (Cond.codeWith y bytes maxL' ret' hh).before args s = true) : c.exceptionTable.toList = tableOf hh := by
  obtain ⟨m9, meth9, c9, hn9, h1, h2, -, -, h6, -⟩ := Cond.codeWith_spec h
  cases Option.some.inj (hn9.symm.trans B.named)
  cases Option.some.inj (h1.symm.trans B.method)
  cases Option.some.inj (h2.symm.trans (Stand.of_body B).code)
  rw [← h6, table_eq]
end Bodies
end VXA
/-! ===== END ===== -/
/-! ===== BEGIN a static call of a method with an exception table ===== -/
section VXS
variable {p : Program} {l : Launch} {e : Env} {R : Room} {s : State} {m : MethodId} {args : Array Value} {below : List Frame} {meth : Method} {c : Code} {T : State} {H : Heap} {locs : List Loc} {cells slots : Nat}
abbrev vx_CSW (R : Room) (s : State) (args : Array Value) (own : String) (index : Nat) (y : MethodName) (bytes : ByteArray) (maxL : Nat) (ret : Option FieldType) (hh : List (Nat × Nat × Nat × Nat)) (ws : List Cond) (rm : Room) (mc ms n : Nat) : Prop :=
  (rm.cells = mc ∧ rm.slots = ms ∧ rm.frames + 1 ≤ R.frames ∧ 8 + (maxL + 11) + rm.locals ≤ R.locals ∧ (∀ w ∈ ws, ∀ (a' : Array Value) (U : State), s.WarmedH U.vm → w.before a' U = true) ∧ Cond.codeWith y bytes maxL ret hh ∈ ws) ∧
  (Cond.codeWith y bytes maxL ret hh).before args s = true ∧ (Cond.initialized y.cls).before args s = true ∧ (y.cls ≠ "java/lang/invoke/MethodHandle" ∧ y.cls ≠ "java/lang/invoke/VarHandle") ∧
  (∀ sig, parseMethodDescriptor y.desc = some sig → n = sig.parameters.length) ∧ (Cond.methodLink own index y).before args s = true ∧ (Cond.static y).before args s = true
theorem vx_cwSW {own : String} {index maxL mc ms : Nat} {y : MethodName} {bytes : ByteArray} {ret : Option FieldType} {hh : List (Nat × Nat × Nat × Nat)} {Ts ws ws' : List Cond} {rm : Room} (n : Nat) (ht : ∀ w ∈ Ts, w.before args s = true) (hT : GoodIn Ts (va_wsS own index y ws)) (hw : ws = Cond.codeWith y bytes maxL ret hh :: ws') (hrc : rm.cells = mc) (hrs : rm.slots = ms)
    (hd : y.cls ≠ "java/lang/invoke/MethodHandle" ∧ y.cls ≠ "java/lang/invoke/VarHandle" ∧ (parseMethodDescriptor y.desc).map (fun d => d.parameters.length) = some n) (hR : rm.frames + 1 ≤ R.frames ∧ 8 + (maxL + 11) + rm.locals ≤ R.locals) :
    vx_CSW R s args own index y bytes maxL ret hh ws rm mc ms n := by
  have ok : ∀ w ∈ va_wsS own index y ws, w.before args s = true := fun w h => ht w (hT w h).1
  have hG : GoodIn Ts ws := fun w h => hT w (by unfold va_wsS; exact List.mem_append_right _ h)
  have hc : Cond.codeWith y bytes maxL ret hh ∈ ws := by rw [hw]; exact List.mem_cons_self
  refine ⟨⟨hrc, hrs, hR.1, hR.2, pay_in ht hG, hc⟩, ht _ (hG _ hc).1, ok _ (by simp [va_wsS]), ⟨hd.1, hd.2.1⟩, fun sig h => ?_, ok _ (by simp [va_wsS]), ok _ (by simp [va_wsS])⟩
  have h2 := hd.2.2
  rw [h] at h2
  exact (Option.some.inj h2).symm
theorem vx_callSW (X : Stand p l e R s m args below meth c T locs cells slots) (hexec : p.tables.exec = Jvm.exec) {own : String} {index : Nat} {y : MethodName} {bytes : ByteArray} {maxL : Nat} {ret : Option FieldType} {hh : List (Nat × Nat × Nat × Nat)}
    (hown : s.vm.findClass own = some m.cls) (hlink : (Cond.methodLink own index y).before args s = true) (hstat : (Cond.static y).before args s = true) (hinit : (Cond.initialized y.cls).before args s = true)
    (hcode : (Cond.codeWith y bytes maxL ret hh).before args s = true) (hy : y.cls ≠ "java/lang/invoke/MethodHandle" ∧ y.cls ≠ "java/lang/invoke/VarHandle")
    {W9 : Nat} {Pre : Pt → Array Value → Prop} {Post : Pt → Array Value → Option Value → Pt → Prop} (hK : Back l R p e below s args y 3 W9 Pre Post)
    {g : JFrame} (hg : g.method = m) (hsize : g.locals.size = c.maxLocals) {argsL rest : List Value} (hlen : ∀ sig, parseMethodDescriptor y.desc = some sig → argsL.length = sig.parameters.length)
    (hstack : g.stack = argsL.reverse ++ rest) (hW : 2 * g.monitorRoom + (rest.map fun v => v.category).sum ≤ W9) (hdg : decode c.code g.pc = .ok (.invokestatic index, 3))
    (hpre : ∀ vm₁, s.WarmedH vm₁ → Pre ⟨T.setVm vm₁, locs, cells, slots⟩ argsL.toArray) :
    ∃ (v : Option Value) (vm₁ : Vm) (B : Pt), s.WarmedH vm₁ ∧ Stand p l e R s m args below meth c B.U B.locs B.cells B.slots ∧ Post ⟨T.setVm vm₁, locs, cells, slots⟩ argsL.toArray v B ∧
      ∀ target, Steps p.tables e below (B.U.setTop { g with pc := g.pc + 3, stack := v.toList ++ rest }) target → Steps p.tables e below (T.setTop g) target := by
  obtain ⟨mk, methM, cM, hnamed, hmethM, -, -, -, -, -, -, hsigM⟩ := Cond.codeWith_spec hcode
  have hstatic : methM.isStatic = true := Cond.static_spec hnamed hmethM hstat
  obtain ⟨kP, hkP, -⟩ := className_of_methodNamed hnamed
  have hinitP : kP.init = .initialized := Cond.initialized_spec (findClass_of_methodNamed hnamed) hkP hinit
  obtain ⟨vm₁, X₁, hstep₁⟩ := X.invokestatic hexec hown hlink hnamed hmethM hstatic hkP hinitP hy (g := g) hg (argsL := argsL) (rest := rest) (hlen _ hsigM) hstack hdg
  obtain ⟨v, B, X', hpost, hsteps⟩ := hK m meth c ⟨T.setVm vm₁, locs, cells, slots⟩ { g with stack := rest } (.invokestatic index) mk argsL.toArray X₁ hg hsize hdg hW (X₁.named hnamed) (hpre vm₁ X₁.warmed)
  exact ⟨v, vm₁, B, X₁.warmed, X', hpost, fun target h => hstep₁ _ fun acts => by rw [doInvoke_state]; exact hsteps.trans h⟩
theorem vx_runSW {y : MethodName} {bytes cc : ByteArray} {maxL nL mc ms n index : Nat} {ret : Option FieldType} {hh : List (Nat × Nat × Nat × Nat)} {ws : List Cond} {rm : Room} {Pc : Array Value → State → Prop} {Qc : Array Value → State → Outcome → State → Prop} {free : Addr → Prop} {Ts : List Cond} {own : String} {As rest : List Value} {g : JFrame}
    (S : CallFix p m c cc nL s args Ts own) (hM : Met l y ws rm Pc Qc mc ms free) (cw : vx_CSW R s args own index y bytes maxL ret hh ws rm mc ms n) (hp : PreS s H Pc As)
    (hg : g.method = m) (hn : As.length = n) (hsize : g.locals.size = nL) (hstack : g.stack = As.reverse ++ rest) (hW : 2 * g.monitorRoom + (rest.map fun v => v.category).sum ≤ 8) (hdg : decode cc g.pc = .ok (.invokestatic index, 3)) (hf : cells + mc ≤ R.cells ∧ slots + ms ≤ R.slots) :
    va_Run p l e R s m args below meth c H locs cells slots mc ms g rest (Qc As.toArray) (free) := by
  obtain ⟨⟨hrc, hrs, hfr, hlo, hws, hcw⟩, hcode, hini, hy, hlen, hl, hstt⟩ := cw
  have hK : Back l R p e below s args y 3 8 (PreOf R mc ms Pc) (PostOf Qc mc ms free) := va_backW (hh := hh) (bytes := bytes) (maxL := maxL) (ret := ret) hM hp.1 hrc hrs hfr hlo hws hcw (fun a' U hW => word_at hW (Or.inl (by first | rfl | simp [Cond.onTables, Cond.keeps, Cond.steady])) hini)
  obtain ⟨hx, hb, hml, ho, -⟩ := S
  intro T hT X
  obtain ⟨v, vm₁, ⟨U', l2, c2, s2⟩, hW₁, X', ⟨g', mk, t, L, e1, e2, hq, h1, hL, h2, h3⟩, st⟩ := vx_callSW X hx (hh := hh) (bytes := bytes) (maxL := maxL) (ret := ret) ho hl hstt hini hcode hy hK hg (hsize.trans hml.symm) (argsL := As) (rest := rest) (fun sig h => hn.trans (hlen sig h)) hstack hW (by rw [hb]; exact hdg)
    (fun vm₁ hW₁ => ⟨hf.1, hf.2, hp.2 (T.setVm vm₁) hT hW₁⟩)
  dsimp only [Pt.U, Pt.locs, Pt.cells, Pt.slots] at X' e1 e2 h1 h2 h3 st
  subst h1; subst h2; subst h3
  exact ⟨v, (T.setVm vm₁).calling g' mk As.toArray, t, U', L, hT, X', hL, e1, e2, hq, st⟩
/-- not caught here, past rows that name other classes: it goes on to the caller -/
theorem vx_outP {p : Program} {l : Launch} {e : Env} {R : Room} {s : State} {m : MethodId} {args : Array Value} {below : List Frame} {meth : Method} {c : Code} {H : Heap} {locs : List Loc} {cells slots : Nat} {free : Addr → Prop} {ls : Array Slot} {rest : List Value} {Qc : Array Value → State → Outcome → State → Prop} {XC : String → State → State → Prop}
    {pc : Nat} {own E : String} {ce : Cell} {q : Addr} {mc ms : Nat} (hown : s.vm.findClass own = some m.cls) (hlocks : meth.locks = false)
    (hpass : ∀ z ∈ c.exceptionTable.toList, covers z pc = false ∨ (z.catchType ≠ 0 ∧ ∃ nm : String, (Cond.classLink own z.catchType nm).before args s = true ∧ va_Nc E nm s)) (hcell : H[q]? = some ce) (hv : ce.vm = .none) (hcl : s.vm.findClass E = some ce.cls)
    (hx : ∀ t : State, t.heap = H → s.vm.Alike t.vm → XC E s t) (hf : ∀ z ∈ locs, free z.base) (hc : cells ≤ mc) (hs : slots ≤ ms) :
    vx_W p l e R s m args below meth c H locs cells slots (vx_MQ below Qc XC args s mc ms free) (F0 m pc ls rest) q := by
  intro T hT X
  have hpl : e.platform.magicAccessors = ({} : Platform).magicAccessors := by rw [X.admits.platform]
  obtain ⟨vm', hW', X', st⟩ := X.outThrough hlocks q (g := F0 m pc ls rest) rfl rfl rfl (cell := ce) (by rw [hT]; exact hcell) (by rw [hv]; rfl)
    (by obtain ⟨k9, h9, -⟩ := Vm.findClass_spec hcl; exact ⟨k9, h9⟩) (fun z hz => by
      rcases hpass z hz with h | ⟨hz0, nm, hl1, hn1⟩
      · exact Or.inl h
      · obtain ⟨c6, hc6, hcl6⟩ := Cond.classLink_spec hown hl1 e.platform hpl
        obtain ⟨a8, b8, h1, h2, h3⟩ := hn1
        cases Option.some.inj (h1.symm.trans hcl)
        cases Option.some.inj (h2.symm.trans hc6)
        exact Or.inr ⟨hz0, _, hcl6, h3⟩)
  obtain ⟨g₀, hfr⟩ := X'.frames_eq
  have hcell9 : ((T.setVm vm').setFrames (.throwing q :: below)).heap[q]? = some ce := by
    show T.heap[q]? = some ce
    rw [hT]; exact hcell
  have hend : Ended ((T.setVm vm').setFrames (.throwing q :: below)) below (.threw q) := State.frames_setFrames _ (State.cur_lt_of_frames hfr)
  refine ⟨(T.setVm vm').setFrames (.throwing q :: below), ?_, .threw q, X'.here.running, hend, Or.inr ⟨q, rfl, E, ce, locs, hx _ hT (X'.ends _).1.alike, hcell9, hv, hcl, (X'.ends _).1, (X'.ends _).2.mono hc hs, hf⟩⟩
  rw [X.pushThrowing_eq]
  exact st
/-- a thing of a world lies in the heap -/
theorem vx_lt {D : va_G} {cl : List vw_C} {ws : va_W} {H1 : Heap} (h : va_P D cl ws H1) {k : Nat} {q : Nat × va_E} (hk : ws[k]? = some q) : q.1 < H1.size := (h k q hk).lt
end VXS
/-! ===== END ===== -/
/-! ===== BEGIN methods with a table of their own: called by a name, returning or throwing ===== -/
section VXH
/-! vx_backW, vx_callVX, vx_callSX, vx_callVW, vx_runVW, vx_runVX, vx_runSX, vx_ofWH follow the same proofs as their sisters above (Free/Laws.lean, Shelf42/LK1.lean); vx_outP calls Shelf42/NT130.lean (outThrough). -/
section
variable {l : Launch} {R : Room} {p : Program} {e : Env} {below : List Frame} {s : State} {sargs : Array Value} {y : MethodName} {len W9 : Nat}
theorem vx_backW {ws : List Cond} {rm : Room} {Pc : Array Value → State → Prop} {Qc : Array Value → State → Outcome → State → Prop} {XC : String → State → State → Prop} {mc ms : Nat} {free : Addr → Prop} {bytes : ByteArray} {maxL : Nat} {ret : Option FieldType} {hh : List (Nat × Nat × Nat × Nat)}
    (hM : vx_Met l y ws rm Pc Qc XC mc ms free) (hblind : FrameBlind Pc) (hrc : rm.cells = mc) (hrs : rm.slots = ms)
    (hframes : rm.frames + 1 ≤ R.frames) (hlocals : W9 + (maxL + 11) + rm.locals ≤ R.locals)
    (hws : ∀ w ∈ ws, ∀ a' U, s.WarmedH U.vm → w.before a' U = true) (hcode : Cond.codeWith y bytes maxL ret hh ∈ ws) (hinit : ∀ a' U, s.WarmedH U.vm → (Cond.initialized y.cls).before a' U = true) :
    vx_Back l R p e below s sargs y len W9 (PreOf R mc ms Pc) (PostOf Qc mc ms free) (vx_Post XC mc ms free) := by
  intro m meth c A g ig mk a X hg hsize hdg hW hn hp
  have h1 : (headSpec ws rm).pre.before a A.U = true := atoms_intro fun w hw => hws w hw _ _ X.warmed
  have h2 : (Cond.codeWith y bytes maxL ret hh).before a A.U = true := hws _ hcode _ _ X.warmed
  have h3 : (Cond.initialized y.cls).before a A.U = true := hinit _ _ X.warmed
  have h4 : A.cells + (headSpec ws rm).room.cells ≤ R.cells := by rw [show (headSpec ws rm).room.cells = mc from hrc]; exact hp.1
  have h5 : A.slots + (headSpec ws rm).room.slots ≤ R.slots := by rw [show (headSpec ws rm).room.slots = ms from hrs]; exact hp.2.1
  have hPc : Pc a (A.U.calling g mk a) := hblind _ _ _ _ hp.2.2
  obtain ⟨U, Ls, c0, s0⟩ := A
  dsimp only [Pt.U, Pt.locs, Pt.cells, Pt.slots] at h1 h2 h3 h4 h5 X hn hPc ⊢
  obtain ⟨m9, methY, cY, hn9, hmY, hcY, -, hlY, -⟩ := Cond.codeWith_spec h2
  cases Option.some.inj (hn9.symm.trans hn)
  obtain ⟨kY, hkY, -⟩ := className_of_methodNamed hn
  have hinitY : kY.init = .initialized := Cond.initialized_spec (findClass_of_methodNamed hn) hkY h3
  have h : At U g.method c below := by rw [hg]; exact X.here
  have hlocals9 : W9 + (maxL + 11) + (headSpec ws rm).room.locals ≤ R.locals := hlocals
  have happ : (headSpec ws rm).appliesLoose y e.platform (U.calling g mk a) = true :=
    Spec.appliesLoose_calling (g := g) h hdg hn hkY hinitY
      (X.room_calling (g := g) (R' := (headSpec ws rm).room) hsize hmY hcY hframes (by rw [hlY]; omega) h4 h5) h1
  obtain ⟨mid, hmid⟩ := h.above
  have hfr : (U.setTop g).frames = (.java g :: mid) ++ below := by rw [State.frames_setTop' g h.top, hmid]; rfl
  obtain ⟨o, s₂, hsteps, -, hend, hq⟩ := Steps.callFree hM p X.admits X.cas X.clock (acts := []) hfr happ hPc trivial
  have hq' : vx_Q Qc XC mc ms free a (U.calling g mk a) o s₂ := hq
  rw [State.frames_setTop' g h.top] at hend
  obtain ⟨g₀, hg0⟩ := Option.isSome_iff_exists.mp h.top
  obtain ⟨r, hr⟩ := State.topJava?_eq_some.mp hg0
  have hr' : (({ U with heap := s₂.heap, slotsUsed := s₂.slotsUsed } : State).setVm s₂.vm).frames = .java g₀ :: r := hr
  rcases hq' with ⟨hqc, L, hfe, hL⟩ | ⟨q, rfl, E, ce, L, hx, hce, hcv, hcl, hW₂, hsm, hL⟩
  · obtain ⟨⟨v, rfl⟩, hW₂, e2, q2, q3, q4, q5, q6⟩ := id hfe
    have e3 : s₂ = ({ (U.calling g mk a).setFrames s₂.frames with heap := s₂.heap, slotsUsed := s₂.slotsUsed } : State).setVm s₂.vm := by
      have : s₂ = ({ s₂ with vm := (U.calling g mk a).vm } : State).setVm s₂.vm := rfl
      rw [e2] at this
      exact this
    obtain ⟨c₂, i₂, len₂, hc₂, hd₂, hf₂⟩ := hend
    have hW' : U.WarmedH s₂.vm := hW₂
    have hcc : c₂ = c := by
      have h1 : s₂.code? g.method = U.code? g.method := by
        rw [State.code?_eq, State.code?_eq, hW'.alike.method?]
      exact Option.some.inj (hc₂.symm.trans (h1.trans h.code))
    subst hcc
    have hlen : len₂ = len := by rw [hdg] at hd₂; cases hd₂; rfl
    subst hlen
    have hs₂ : s₂ = (({ U with heap := s₂.heap, slotsUsed := s₂.slotsUsed } : State).setVm s₂.vm).setTop { g with pc := g.pc + len₂, stack := v.toList ++ g.stack } := by
      refine e3.trans ?_
      rw [hf₂, State.calling_eq h.top, State.setFrames_setFrames, State.setTop_of_frames _ hr', hr]
      rfl
    have hsame : U.sameButNew ({ U with heap := s₂.heap, slotsUsed := s₂.slotsUsed } : State) L mc ms := by
      refine ⟨?_, q2, q3, q4, q5, q6⟩
      obtain ⟨t, ht, -⟩ := State.frames_cons hr
      show ({ U with heap := s₂.heap, slotsUsed := s₂.slotsUsed } : State) = { U.setFrames U.frames with heap := s₂.heap, slotsUsed := s₂.slotsUsed }
      rw [State.setFrames_self ht]
    subst hg
    refine Or.inl ⟨v, ⟨(({ U with heap := s₂.heap, slotsUsed := s₂.slotsUsed } : State).setVm s₂.vm), Ls ++ L, c0 + mc, s0 + ms⟩,
      ⟨X.admits, X.cas, X.clock, X.frames, X.room, X.hears, X.method, X.code, (X.here.setHeapUsed s₂.heap s₂.slotsUsed).setVm hW'.alike, X.tail, State.WarmedH.trans X.warmed hW', X.limits, X.bytes, X.same.trans (hsame.setVm s.vm)⟩,
      ⟨g, mk, s₂, L, rfl, rfl, hqc, rfl, hL, rfl, rfl⟩, ?_⟩
    show Steps p.tables e below _ ((({ U with heap := s₂.heap, slotsUsed := s₂.slotsUsed } : State).setVm s₂.vm).setTop { g with pc := g.pc + len₂, stack := v.toList ++ g.stack })
    rw [← hs₂]
    exact hsteps
  · obtain ⟨e2, q2, q3, q4, q5, q6⟩ := id hsm
    have e3 : s₂ = ({ (U.calling g mk a).setFrames s₂.frames with heap := s₂.heap, slotsUsed := s₂.slotsUsed } : State).setVm s₂.vm := by
      have : s₂ = ({ s₂ with vm := (U.calling g mk a).vm } : State).setVm s₂.vm := rfl
      rw [e2] at this
      exact this
    have hf₂ : s₂.frames = .throwing q :: .java g :: U.frames.tail := hend
    have hW' : U.WarmedH s₂.vm := hW₂
    have hs₂ : s₂ = ((({ U with heap := s₂.heap, slotsUsed := s₂.slotsUsed } : State).setVm s₂.vm).setTop g).pushFrame (.throwing q) := by
      refine e3.trans ?_
      rw [hf₂, State.calling_eq h.top, State.setFrames_setFrames, State.pushFrame, State.frames_setTop _ hr', State.setTop_of_frames _ hr', State.setFrames_setFrames, hr]
      rfl
    have hsame : U.sameButNew ({ U with heap := s₂.heap, slotsUsed := s₂.slotsUsed } : State) L mc ms := by
      refine ⟨?_, q2, q3, q4, q5, q6⟩
      obtain ⟨t, ht, -⟩ := State.frames_cons hr
      show ({ U with heap := s₂.heap, slotsUsed := s₂.slotsUsed } : State) = { U.setFrames U.frames with heap := s₂.heap, slotsUsed := s₂.slotsUsed }
      rw [State.setFrames_self ht]
    subst hg
    refine Or.inr ⟨q, ⟨(({ U with heap := s₂.heap, slotsUsed := s₂.slotsUsed } : State).setVm s₂.vm), Ls ++ L, c0 + mc, s0 + ms⟩,
      ⟨X.admits, X.cas, X.clock, X.frames, X.room, X.hears, X.method, X.code, (X.here.setHeapUsed s₂.heap s₂.slotsUsed).setVm hW'.alike, X.tail, State.WarmedH.trans X.warmed hW', X.limits, X.bytes, X.same.trans (hsame.setVm s.vm)⟩,
      ⟨g, mk, s₂, L, E, ce, rfl, rfl, hx, hce, hcv, hcl, rfl, hL, rfl, rfl⟩, ?_⟩
    show Steps p.tables e below _ (((({ U with heap := s₂.heap, slotsUsed := s₂.slotsUsed } : State).setVm s₂.vm).setTop g).pushFrame (.throwing q))
    rw [← hs₂]
    exact hsteps
end
variable {p : Program} {l : Launch} {e : Env} {R : Room} {s : State} {m : MethodId} {args : Array Value} {below : List Frame} {meth : Method} {c : Code} {T : State} {H : Heap} {locs : List Loc} {cells slots : Nat}
theorem vx_callVX (X : Stand p l e R s m args below meth c T locs cells slots) (hexec : p.tables.exec = Jvm.exec) {own C : String} {index : Nat} {y : MethodName} {bytes : ByteArray} {maxL : Nat} {ret : Option FieldType} {hh : List (Nat × Nat × Nat × Nat)}
    (hown : s.vm.findClass own = some m.cls) (hlink : (Cond.methodLink own index y).before args s = true) (hinst : (Cond.instanceMethod y).before args s = true) (hsel : (Cond.selects C y y).before args s = true)
    (hcode : (Cond.codeWith y bytes maxL ret hh).before args s = true) (hy : y.cls ≠ "java/lang/invoke/MethodHandle" ∧ y.cls ≠ "java/lang/invoke/VarHandle")
    {W9 : Nat} {Pre : Pt → Array Value → Prop} {Post : Pt → Array Value → Option Value → Pt → Prop} {PostX : Pt → Array Value → Addr → Pt → Prop} (hK : vx_Back l R p e below s args y 3 W9 Pre Post PostX)
    {b : Addr} {cellB : Cell} (hcell : T.heap[b]? = some cellB) (hobj : cellB.vm.isStatics = false) (hcls : s.vm.findClass C = some cellB.cls)
    {g : JFrame} (hg : g.method = m) (hsize : g.locals.size = c.maxLocals) {argsL rest : List Value} (hlen : ∀ sig, parseMethodDescriptor y.desc = some sig → argsL.length = sig.parameters.length)
    (hstack : g.stack = argsL.reverse ++ .ref b :: rest) (hW : 2 * g.monitorRoom + (rest.map fun v => v.category).sum ≤ W9) (hdg : decode c.code g.pc = .ok (.invokevirtual index, 3))
    (hpre : ∀ vm₁, s.WarmedH vm₁ → Pre ⟨T.setVm vm₁, locs, cells, slots⟩ (Value.ref b :: argsL).toArray) :
    (∃ (v : Option Value) (vm₁ : Vm) (B : Pt), s.WarmedH vm₁ ∧ Stand p l e R s m args below meth c B.U B.locs B.cells B.slots ∧ Post ⟨T.setVm vm₁, locs, cells, slots⟩ (Value.ref b :: argsL).toArray v B ∧
      ∀ target, Steps p.tables e below (B.U.setTop { g with pc := g.pc + 3, stack := v.toList ++ rest }) target → Steps p.tables e below (T.setTop g) target) ∨
    (∃ (q : Addr) (vm₁ : Vm) (B : Pt), s.WarmedH vm₁ ∧ Stand p l e R s m args below meth c B.U B.locs B.cells B.slots ∧ PostX ⟨T.setVm vm₁, locs, cells, slots⟩ (Value.ref b :: argsL).toArray q B ∧
      Steps p.tables e below (T.setTop g) ((B.U.setTop { g with stack := rest }).pushFrame (.throwing q))) := by
  obtain ⟨mk, methM, hnamed, hmethM, hstM, habM⟩ := Cond.instanceMethod_spec hinst
  obtain ⟨m8, methM', cM, hn8, hmethM', -, -, -, -, -, -, hsigM⟩ := Cond.codeWith_spec hcode
  cases Option.some.inj (hn8.symm.trans hnamed)
  cases hmethM.symm.trans hmethM'
  obtain ⟨c2, r2, m2, q1, q2, q3, q4, kP, hkP, hkPi⟩ := Cond.selects_spec hsel
  cases hcls.symm.trans q1
  cases (State.methodFound?_of_named hnamed hy).symm.trans q2
  cases hnamed.symm.trans q3
  have hselP : selectMethod e.platform s.vm cellB.cls mk = .method mk := by rw [Launch.admits_selectMethod X.admits]; exact q4
  obtain ⟨vm₁, X₁, hstep₁⟩ := X.invokevirtual hexec hown hlink hnamed hmethM hstM hkP hkPi hy (a := b) (cell := cellB) hcell
    (fun z h => by rw [h] at hobj; cases hobj) hselP hmethM habM hkP hkPi (g := g) hg (argsL := argsL) (rest := rest) (hlen _ hsigM) hstack hdg
  rcases hK m meth c ⟨T.setVm vm₁, locs, cells, slots⟩ { g with stack := rest } (.invokevirtual index) mk (Value.ref b :: argsL).toArray X₁ hg hsize hdg hW (X₁.named hnamed) (hpre vm₁ X₁.warmed) with ⟨v, B, X', hpost, hsteps⟩ | ⟨q, B, X', hpost, hsteps⟩
  · exact Or.inl ⟨v, vm₁, B, X₁.warmed, X', hpost, fun target h => hstep₁ _ fun acts => by rw [doInvoke_state]; exact hsteps.trans h⟩
  · exact Or.inr ⟨q, vm₁, B, X₁.warmed, X', hpost, hstep₁ _ fun acts => by rw [doInvoke_state]; exact hsteps⟩
theorem vx_callSX (X : Stand p l e R s m args below meth c T locs cells slots) (hexec : p.tables.exec = Jvm.exec) {own : String} {index : Nat} {y : MethodName} {bytes : ByteArray} {maxL : Nat} {ret : Option FieldType} {hh : List (Nat × Nat × Nat × Nat)}
    (hown : s.vm.findClass own = some m.cls) (hlink : (Cond.methodLink own index y).before args s = true) (hstat : (Cond.static y).before args s = true) (hinit : (Cond.initialized y.cls).before args s = true)
    (hcode : (Cond.codeWith y bytes maxL ret hh).before args s = true) (hy : y.cls ≠ "java/lang/invoke/MethodHandle" ∧ y.cls ≠ "java/lang/invoke/VarHandle")
    {W9 : Nat} {Pre : Pt → Array Value → Prop} {Post : Pt → Array Value → Option Value → Pt → Prop} {PostX : Pt → Array Value → Addr → Pt → Prop} (hK : vx_Back l R p e below s args y 3 W9 Pre Post PostX)
    {g : JFrame} (hg : g.method = m) (hsize : g.locals.size = c.maxLocals) {argsL rest : List Value} (hlen : ∀ sig, parseMethodDescriptor y.desc = some sig → argsL.length = sig.parameters.length)
    (hstack : g.stack = argsL.reverse ++ rest) (hW : 2 * g.monitorRoom + (rest.map fun v => v.category).sum ≤ W9) (hdg : decode c.code g.pc = .ok (.invokestatic index, 3))
    (hpre : ∀ vm₁, s.WarmedH vm₁ → Pre ⟨T.setVm vm₁, locs, cells, slots⟩ argsL.toArray) :
    (∃ (v : Option Value) (vm₁ : Vm) (B : Pt), s.WarmedH vm₁ ∧ Stand p l e R s m args below meth c B.U B.locs B.cells B.slots ∧ Post ⟨T.setVm vm₁, locs, cells, slots⟩ argsL.toArray v B ∧
      ∀ target, Steps p.tables e below (B.U.setTop { g with pc := g.pc + 3, stack := v.toList ++ rest }) target → Steps p.tables e below (T.setTop g) target) ∨
    (∃ (q : Addr) (vm₁ : Vm) (B : Pt), s.WarmedH vm₁ ∧ Stand p l e R s m args below meth c B.U B.locs B.cells B.slots ∧ PostX ⟨T.setVm vm₁, locs, cells, slots⟩ argsL.toArray q B ∧
      Steps p.tables e below (T.setTop g) ((B.U.setTop { g with stack := rest }).pushFrame (.throwing q))) := by
  obtain ⟨mk, methM, cM, hnamed, hmethM, -, -, -, -, -, -, hsigM⟩ := Cond.codeWith_spec hcode
  have hstatic : methM.isStatic = true := Cond.static_spec hnamed hmethM hstat
  obtain ⟨kP, hkP, -⟩ := className_of_methodNamed hnamed
  have hinitP : kP.init = .initialized := Cond.initialized_spec (findClass_of_methodNamed hnamed) hkP hinit
  obtain ⟨vm₁, X₁, hstep₁⟩ := X.invokestatic hexec hown hlink hnamed hmethM hstatic hkP hinitP hy (g := g) hg (argsL := argsL) (rest := rest) (hlen _ hsigM) hstack hdg
  rcases hK m meth c ⟨T.setVm vm₁, locs, cells, slots⟩ { g with stack := rest } (.invokestatic index) mk argsL.toArray X₁ hg hsize hdg hW (X₁.named hnamed) (hpre vm₁ X₁.warmed) with ⟨v, B, X', hpost, hsteps⟩ | ⟨q, B, X', hpost, hsteps⟩
  · exact Or.inl ⟨v, vm₁, B, X₁.warmed, X', hpost, fun target h => hstep₁ _ fun acts => by rw [doInvoke_state]; exact hsteps.trans h⟩
  · exact Or.inr ⟨q, vm₁, B, X₁.warmed, X', hpost, hstep₁ _ fun acts => by rw [doInvoke_state]; exact hsteps⟩
theorem vx_callVW (X : Stand p l e R s m args below meth c T locs cells slots) (hexec : p.tables.exec = Jvm.exec) {own C : String} {index : Nat} {y : MethodName} {bytes : ByteArray} {maxL : Nat} {ret : Option FieldType} {hh : List (Nat × Nat × Nat × Nat)}
    (hown : s.vm.findClass own = some m.cls) (hlink : (Cond.methodLink own index y).before args s = true) (hinst : (Cond.instanceMethod y).before args s = true) (hsel : (Cond.selects C y y).before args s = true)
    (hcode : (Cond.codeWith y bytes maxL ret hh).before args s = true) (hy : y.cls ≠ "java/lang/invoke/MethodHandle" ∧ y.cls ≠ "java/lang/invoke/VarHandle")
    {W9 : Nat} {Pre : Pt → Array Value → Prop} {Post : Pt → Array Value → Option Value → Pt → Prop} (hK : Back l R p e below s args y 3 W9 Pre Post)
    {b : Addr} {cellB : Cell} (hcell : T.heap[b]? = some cellB) (hobj : cellB.vm.isStatics = false) (hcls : s.vm.findClass C = some cellB.cls)
    {g : JFrame} (hg : g.method = m) (hsize : g.locals.size = c.maxLocals) {argsL rest : List Value} (hlen : ∀ sig, parseMethodDescriptor y.desc = some sig → argsL.length = sig.parameters.length)
    (hstack : g.stack = argsL.reverse ++ .ref b :: rest) (hW : 2 * g.monitorRoom + (rest.map fun v => v.category).sum ≤ W9) (hdg : decode c.code g.pc = .ok (.invokevirtual index, 3))
    (hpre : ∀ vm₁, s.WarmedH vm₁ → Pre ⟨T.setVm vm₁, locs, cells, slots⟩ (Value.ref b :: argsL).toArray) :
    ∃ (v : Option Value) (vm₁ : Vm) (B : Pt), s.WarmedH vm₁ ∧ Stand p l e R s m args below meth c B.U B.locs B.cells B.slots ∧ Post ⟨T.setVm vm₁, locs, cells, slots⟩ (Value.ref b :: argsL).toArray v B ∧
      ∀ target, Steps p.tables e below (B.U.setTop { g with pc := g.pc + 3, stack := v.toList ++ rest }) target → Steps p.tables e below (T.setTop g) target := by
  obtain ⟨mk, methM, hnamed, hmethM, hstM, habM⟩ := Cond.instanceMethod_spec hinst
  obtain ⟨m8, methM', cM, hn8, hmethM', -, -, -, -, -, -, hsigM⟩ := Cond.codeWith_spec hcode
  cases Option.some.inj (hn8.symm.trans hnamed)
  cases hmethM.symm.trans hmethM'
  obtain ⟨c2, r2, m2, q1, q2, q3, q4, kP, hkP, hkPi⟩ := Cond.selects_spec hsel
  cases hcls.symm.trans q1
  cases (State.methodFound?_of_named hnamed hy).symm.trans q2
  cases hnamed.symm.trans q3
  have hselP : selectMethod e.platform s.vm cellB.cls mk = .method mk := by rw [Launch.admits_selectMethod X.admits]; exact q4
  obtain ⟨vm₁, X₁, hstep₁⟩ := X.invokevirtual hexec hown hlink hnamed hmethM hstM hkP hkPi hy (a := b) (cell := cellB) hcell
    (fun z h => by rw [h] at hobj; cases hobj) hselP hmethM habM hkP hkPi (g := g) hg (argsL := argsL) (rest := rest) (hlen _ hsigM) hstack hdg
  obtain ⟨v, B, X', hpost, hsteps⟩ := hK m meth c ⟨T.setVm vm₁, locs, cells, slots⟩ { g with stack := rest } (.invokevirtual index) mk (Value.ref b :: argsL).toArray X₁ hg hsize hdg hW (X₁.named hnamed) (hpre vm₁ X₁.warmed)
  exact ⟨v, vm₁, B, X₁.warmed, X', hpost, fun target h => hstep₁ _ fun acts => by rw [doInvoke_state]; exact hsteps.trans h⟩
abbrev vx_CVW (R : Room) (s : State) (args : Array Value) (own C : String) (index : Nat) (y : MethodName) (bytes : ByteArray) (maxL : Nat) (ret : Option FieldType) (hh : List (Nat × Nat × Nat × Nat)) (ws : List Cond) (rm : Room) (mc ms n : Nat) : Prop :=
  (rm.cells = mc ∧ rm.slots = ms ∧ rm.frames + 1 ≤ R.frames ∧ 8 + (maxL + 11) + rm.locals ≤ R.locals ∧ (∀ w ∈ ws, ∀ (a' : Array Value) (U : State), s.WarmedH U.vm → w.before a' U = true) ∧ Cond.codeWith y bytes maxL ret hh ∈ ws) ∧
  (Cond.codeWith y bytes maxL ret hh).before args s = true ∧ (Cond.initialized y.cls).before args s = true ∧ (y.cls ≠ "java/lang/invoke/MethodHandle" ∧ y.cls ≠ "java/lang/invoke/VarHandle") ∧
  (∀ sig, parseMethodDescriptor y.desc = some sig → n = sig.parameters.length) ∧ (Cond.methodLink own index y).before args s = true ∧ (Cond.instanceMethod y).before args s = true ∧ (Cond.selects C y y).before args s = true
theorem vx_cwVW {own C : String} {index maxL mc ms : Nat} {y : MethodName} {bytes : ByteArray} {ret : Option FieldType} {hh : List (Nat × Nat × Nat × Nat)} {Ts ws ws' : List Cond} {rm : Room} (n : Nat) (ht : ∀ w ∈ Ts, w.before args s = true) (hT : GoodIn Ts (wsV own index C y ws)) (hw : ws = Cond.codeWith y bytes maxL ret hh :: ws') (hrc : rm.cells = mc) (hrs : rm.slots = ms)
    (hd : y.cls = C ∧ y.cls ≠ "java/lang/invoke/MethodHandle" ∧ y.cls ≠ "java/lang/invoke/VarHandle" ∧ (parseMethodDescriptor y.desc).map (fun d => d.parameters.length) = some n) (hR : rm.frames + 1 ≤ R.frames ∧ 8 + (maxL + 11) + rm.locals ≤ R.locals) :
    vx_CVW R s args own C index y bytes maxL ret hh ws rm mc ms n := by
  obtain ⟨hC, hd⟩ := hd
  subst hC
  have ok : ∀ w ∈ wsV own index y.cls y ws, w.before args s = true := fun w h => ht w (hT w h).1
  have hG : GoodIn Ts ws := fun w h => hT w (by unfold wsV; exact List.mem_append_right _ h)
  have hc : Cond.codeWith y bytes maxL ret hh ∈ ws := by rw [hw]; exact List.mem_cons_self
  refine ⟨⟨hrc, hrs, hR.1, hR.2, pay_in ht hG, hc⟩, ht _ (hG _ hc).1, ok _ (by simp [wsV]), ⟨hd.1, hd.2.1⟩, fun sig h => ?_, ok _ (by simp [wsV]), ok _ (by simp [wsV]), ok _ (by simp [wsV])⟩
  have h2 := hd.2.2
  rw [h] at h2
  exact (Option.some.inj h2).symm
theorem vx_runVW {y : MethodName} {bytes cc : ByteArray} {maxL nL mc ms n index : Nat} {ret : Option FieldType} {hh : List (Nat × Nat × Nat × Nat)} {ws : List Cond} {rm : Room} {Pc : Array Value → State → Prop} {Qc : Array Value → State → Outcome → State → Prop} {free : Addr → Prop} {Ts : List Cond} {own C : String} {b : Addr} {As rest : List Value} {g : JFrame}
    (S : CallFix p m c cc nL s args Ts own) (hM : Met l y ws rm Pc Qc mc ms free) (cw : vx_CVW R s args own C index y bytes maxL ret hh ws rm mc ms n) (hp : PreV s H C b Pc As)
    (hg : g.method = m) (hn : As.length = n) (hsize : g.locals.size = nL) (hstack : g.stack = As.reverse ++ .ref b :: rest) (hW : 2 * g.monitorRoom + (rest.map fun v => v.category).sum ≤ 8) (hdg : decode cc g.pc = .ok (.invokevirtual index, 3)) (hf : cells + mc ≤ R.cells ∧ slots + ms ≤ R.slots) :
    va_Run p l e R s m args below meth c H locs cells slots mc ms g rest (Qc (Value.ref b :: As).toArray) free := by
  obtain ⟨⟨hrc, hrs, hfr, hlo, hws, hcw⟩, hcode, hini, hy, hlen, hl, hin, hse⟩ := cw
  have hK : Back l R p e below s args y 3 8 (PreOf R mc ms Pc) (PostOf Qc mc ms free) := va_backW (hh := hh) (bytes := bytes) (maxL := maxL) (ret := ret) hM hp.1 hrc hrs hfr hlo hws hcw (fun a' U hW => word_at hW (Or.inl (by first | rfl | simp [Cond.onTables, Cond.keeps, Cond.steady])) hini)
  obtain ⟨hx, hb, hml, ho, -⟩ := S
  obtain ⟨-, ⟨cellB, hcB, hoB, hclB⟩, hPc⟩ := hp
  intro T hT X
  obtain ⟨v, vm₁, ⟨U', l2, c2, s2⟩, hW₁, X', ⟨g', mk, t, L, e1, e2, hq, h1, hL, h2, h3⟩, st⟩ := vx_callVW X hx (C := C) (hh := hh) (bytes := bytes) (maxL := maxL) (ret := ret) ho hl hin hse hcode hy hK (by rw [hT]; exact hcB) hoB hclB hg (hsize.trans hml.symm) (argsL := As) (rest := rest) (fun sig h => hn.trans (hlen sig h)) hstack hW (by rw [hb]; exact hdg)
    (fun vm₁ hW₁ => ⟨hf.1, hf.2, hPc (T.setVm vm₁) hT hW₁⟩)
  dsimp only [Pt.U, Pt.locs, Pt.cells, Pt.slots] at X' e1 e2 h1 h2 h3 st
  subst h1; subst h2; subst h3
  exact ⟨v, (T.setVm vm₁).calling g' mk (Value.ref b :: As).toArray, t, U', L, hT, X', hL, e1, e2, hq, st⟩
section
variable {y : MethodName} {bytes cc : ByteArray} {maxL nL mc ms n index : Nat} {ret : Option FieldType} {ws : List Cond} {rm : Room} {Pc : Array Value → State → Prop} {Qc : Array Value → State → Outcome → State → Prop} {XC : String → State → State → Prop} {free : Addr → Prop} {Ts : List Cond} {own C : String} {b : Addr} {As rest : List Value} {g : JFrame}
theorem vx_runVX {hh : List (Nat × Nat × Nat × Nat)} (S : CallFix p m c cc nL s args Ts own) (hM : vx_Met l y ws rm Pc Qc XC mc ms free) (cw : vx_CVW R s args own C index y bytes maxL ret hh ws rm mc ms n) (hp : PreV s H C b Pc As)
    (hg : g.method = m) (hn : As.length = n) (hsize : g.locals.size = nL) (hstack : g.stack = As.reverse ++ .ref b :: rest) (hW : 2 * g.monitorRoom + (rest.map fun v => v.category).sum ≤ 8) (hdg : decode cc g.pc = .ok (.invokevirtual index, 3)) (hf : cells + mc ≤ R.cells ∧ slots + ms ≤ R.slots) :
    vx_Run p l e R s m args below meth c H locs cells slots mc ms g rest (Qc (Value.ref b :: As).toArray) XC free := by
  obtain ⟨⟨hrc, hrs, hfr, hlo, hws, hcw⟩, hcode, hini, hy, hlen, hl, hin, hse⟩ := cw
  have hK : vx_Back l R p e below s args y 3 8 (PreOf R mc ms Pc) (PostOf Qc mc ms free) (vx_Post XC mc ms free) := vx_backW (hh := hh) (bytes := bytes) (maxL := maxL) (ret := ret) hM hp.1 hrc hrs hfr hlo hws hcw (fun a' U hW => word_at hW (Or.inl (by first | rfl | simp [Cond.onTables, Cond.keeps, Cond.steady])) hini)
  obtain ⟨hx, hb, hml, ho, -⟩ := S
  obtain ⟨-, ⟨cellB, hcB, hoB, hclB⟩, hPc⟩ := hp
  intro T hT X
  rcases vx_callVX X hx (C := C) (hh := hh) (bytes := bytes) (maxL := maxL) (ret := ret) ho hl hin hse hcode hy hK (by rw [hT]; exact hcB) hoB hclB hg (hsize.trans hml.symm) (argsL := As) (rest := rest) (fun sig h => hn.trans (hlen sig h)) hstack hW (by rw [hb]; exact hdg)
    (fun vm₁ hW₁ => ⟨hf.1, hf.2, hPc (T.setVm vm₁) hT hW₁⟩) with ⟨v, vm₁, ⟨U', l2, c2, s2⟩, hW₁, X', ⟨g', mk, t, L, e1, e2, hq, h1, hL, h2, h3⟩, st⟩ | ⟨q, vm₁, ⟨U', l2, c2, s2⟩, hW₁, X', ⟨g', mk, t, L, E, ce, e1, e2, hq, hce, hcv, hcl, h1, hL, h2, h3⟩, st⟩
  · dsimp only [Pt.U, Pt.locs, Pt.cells, Pt.slots] at X' e1 e2 h1 h2 h3 st
    subst h1; subst h2; subst h3
    exact Or.inl ⟨v, (T.setVm vm₁).calling g' mk (Value.ref b :: As).toArray, t, U', L, hT, X', hL, e1, e2, hq, st⟩
  · dsimp only [Pt.U, Pt.locs, Pt.cells, Pt.slots] at X' e1 e2 h1 h2 h3 st hcl
    subst h1; subst h2; subst h3
    exact Or.inr ⟨q, (T.setVm vm₁).calling g' mk (Value.ref b :: As).toArray, t, U', L, E, ce, hT, X', hL, e1, e2, hq, hce, hcv, vx_cls hW₁ hcl, st⟩
theorem vx_runSX {hh : List (Nat × Nat × Nat × Nat)} (S : CallFix p m c cc nL s args Ts own) (hM : vx_Met l y ws rm Pc Qc XC mc ms free) (cw : vx_CSW R s args own index y bytes maxL ret hh ws rm mc ms n) (hp : PreS s H Pc As)
    (hg : g.method = m) (hn : As.length = n) (hsize : g.locals.size = nL) (hstack : g.stack = As.reverse ++ rest) (hW : 2 * g.monitorRoom + (rest.map fun v => v.category).sum ≤ 8) (hdg : decode cc g.pc = .ok (.invokestatic index, 3)) (hf : cells + mc ≤ R.cells ∧ slots + ms ≤ R.slots) :
    vx_Run p l e R s m args below meth c H locs cells slots mc ms g rest (Qc As.toArray) XC free := by
  obtain ⟨⟨hrc, hrs, hfr, hlo, hws, hcw⟩, hcode, hini, hy, hlen, hl, hstt⟩ := cw
  have hK : vx_Back l R p e below s args y 3 8 (PreOf R mc ms Pc) (PostOf Qc mc ms free) (vx_Post XC mc ms free) := vx_backW (hh := hh) (bytes := bytes) (maxL := maxL) (ret := ret) hM hp.1 hrc hrs hfr hlo hws hcw (fun a' U hW => word_at hW (Or.inl (by first | rfl | simp [Cond.onTables, Cond.keeps, Cond.steady])) hini)
  obtain ⟨hx, hb, hml, ho, -⟩ := S
  intro T hT X
  rcases vx_callSX X hx (hh := hh) (bytes := bytes) (maxL := maxL) (ret := ret) ho hl hstt hini hcode hy hK hg (hsize.trans hml.symm) (argsL := As) (rest := rest) (fun sig h => hn.trans (hlen sig h)) hstack hW (by rw [hb]; exact hdg)
    (fun vm₁ hW₁ => ⟨hf.1, hf.2, hp.2 (T.setVm vm₁) hT hW₁⟩) with ⟨v, vm₁, ⟨U', l2, c2, s2⟩, hW₁, X', ⟨g', mk, t, L, e1, e2, hq, h1, hL, h2, h3⟩, st⟩ | ⟨q, vm₁, ⟨U', l2, c2, s2⟩, hW₁, X', ⟨g', mk, t, L, E, ce, e1, e2, hq, hce, hcv, hcl, h1, hL, h2, h3⟩, st⟩
  · dsimp only [Pt.U, Pt.locs, Pt.cells, Pt.slots] at X' e1 e2 h1 h2 h3 st
    subst h1; subst h2; subst h3
    exact Or.inl ⟨v, (T.setVm vm₁).calling g' mk As.toArray, t, U', L, hT, X', hL, e1, e2, hq, st⟩
  · dsimp only [Pt.U, Pt.locs, Pt.cells, Pt.slots] at X' e1 e2 h1 h2 h3 st hcl
    subst h1; subst h2; subst h3
    exact Or.inr ⟨q, (T.setVm vm₁).calling g' mk As.toArray, t, U', L, E, ce, hT, X', hL, e1, e2, hq, hce, hcv, vx_cls hW₁ hcl, st⟩
end
end VXH
theorem vx_ofWH {l : Launch} {y : MethodName} {ws ws' : List Cond} {rm : Room} {Pc : Array Value → State → Prop} {Qc : Array Value → State → Outcome → State → Prop} {XC : String → State → State → Prop} {mc ms : Nat} {free : Addr → Prop} {cc : ByteArray} {maxL : Nat} {ret : Option FieldType} {hh : List (Nat × Nat × Nat × Nat)}
    (hy : plainName y.cls = true) (hw : ws = Cond.codeWith y cc maxL ret hh :: ws')
    (body : ∀ p e s m args below meth c s₁, BodyLoose p l y (headSpec ws rm) cc maxL ret e s m args below meth c s₁ → c.maxLocals = maxL → Pc args s →
      W p l e (headSpec ws rm).room s m args below meth c s.heap [] 0 0 (vx_MQ below Qc XC args s mc ms free) (entryFrame m args maxL)) : vx_Met l y ws rm Pc Qc XC mc ms free := by
  refine MetFree.of_bodyS (code := cc) (maxLocals := maxL) (ret := ret) hy ?_ ?_
  · intro args s m h hn
    obtain ⟨m9, meth, c, hn9, h1, h2, h3, h4, -, h5, h6, -⟩ := Cond.codeWith_spec (atoms_spec (ws := ws) h _ (by rw [hw]; exact List.mem_cons_self))
    cases hn.symm.trans hn9
    exact ⟨meth, c, h1, h2, h3, h4, h5, h6⟩
  · intro p e s m args below meth c s₁ B hml hP _
    have hh0 : s₁.heap = s.heap := by rw [B.state]; rfl
    obtain ⟨t, a1, o, b1, b2, b3⟩ := body p e s m args below meth c s₁ B hml hP s₁ hh0 (Stand.of_body B)
    exact ⟨t, o, a1, b1, b2, b3⟩
/-! ===== END ===== -/
end
section
/-! ===== BEGIN printed: names, fields, word lists, decode rows ===== -/
def RX0 : String := "MixBench$Memory"
def TX0 : u_T := fun k => match k with
  | _ => ("MixBench$Memory", "octas", "[J", true)
def tyX0 : Nat → FieldType := fun k => match k with
  | _ => .array .long
abbrev wsX00 : List Cond := u_ws RX0 TX0 1
theorem nmX0 : ∀ a, a < 1 → ∀ b, b < 1 → a ≠ b → (TX0 a).2.1 ≠ (TX0 b).2.1 := by decide +kernel
theorem tyX0_ok : ∀ k, k < 1 → parseFieldDescriptor (TX0 k).2.2.1 = some (tyX0 k) := by decide +kernel
abbrev cX0_init : ByteArray := prog_2_method_1_code
def yX0_init : MethodName := ⟨RX0, "<init>", "()V"⟩
abbrev cX0_octaOf : ByteArray := prog_2_method_2_code
def yX0_octaOf : MethodName := ⟨RX0, "octaOf", "(J)I"⟩
abbrev cX0_shiftOf : ByteArray := prog_2_method_3_code
def yX0_shiftOf : MethodName := ⟨RX0, "shiftOf", "(JI)I"⟩
abbrev cX0_maskOf : ByteArray := prog_2_method_4_code
def yX0_maskOf : MethodName := ⟨RX0, "maskOf", "(I)J"⟩
abbrev cX0_load : ByteArray := prog_2_method_5_code
def yX0_load : MethodName := ⟨RX0, "load", "(JI)J"⟩
abbrev cX0_store : ByteArray := prog_2_method_6_code
def yX0_store : MethodName := ⟨RX0, "store", "(JIJ)V"⟩
def RX1 : String := "MixBench$Names"
def TX1 : u_T := fun k => match k with
  | _ => ("", "", "", false)
def tyX1 : Nat → FieldType := fun k => match k with
  | _ => .int
abbrev wsX10 : List Cond := u_ws RX1 TX1 0
theorem nmX1 : ∀ a, a < 0 → ∀ b, b < 0 → a ≠ b → (TX1 a).2.1 ≠ (TX1 b).2.1 := by decide +kernel
theorem tyX1_ok : ∀ k, k < 0 → parseFieldDescriptor (TX1 k).2.2.1 = some (tyX1 k) := by decide +kernel
abbrev cX1_opNamed : ByteArray := prog_3_method_2_code
def yX1_opNamed : MethodName := ⟨RX1, "opNamed", "(I)I"⟩
abbrev cX1_singleNamed : ByteArray := prog_3_method_3_code
def yX1_singleNamed : MethodName := ⟨RX1, "singleNamed", "(I)I"⟩
abbrev cX1_evenNamed : ByteArray := prog_3_method_4_code
def yX1_evenNamed : MethodName := ⟨RX1, "evenNamed", "(I)I"⟩
abbrev cX1_oddNamed : ByteArray := prog_3_method_5_code
def yX1_oddNamed : MethodName := ⟨RX1, "oddNamed", "(I)I"⟩
abbrev cX1_meantBy : ByteArray := prog_3_method_6_code
def yX1_meantBy : MethodName := ⟨RX1, "meantBy", "(ILjava/lang/String;Ljava/lang/String;)I"⟩
abbrev cX1_opInRow : ByteArray := prog_3_method_7_code
def yX1_opInRow : MethodName := ⟨RX1, "opInRow", "(Ljava/lang/String;III)I"⟩
abbrev cX1_placeOf : ByteArray := prog_3_method_8_code
def yX1_placeOf : MethodName := ⟨RX1, "placeOf", "(ILjava/lang/String;)I"⟩
abbrev cX1_nameAt : ByteArray := prog_3_method_9_code
def yX1_nameAt : MethodName := ⟨RX1, "nameAt", "(ILjava/lang/String;)I"⟩
def RX2 : String := "MixBench$Numbers"
def TX2 : u_T := fun k => match k with
  | _ => ("", "", "", false)
def tyX2 : Nat → FieldType := fun k => match k with
  | _ => .int
abbrev wsX20 : List Cond := u_ws RX2 TX2 0
theorem nmX2 : ∀ a, a < 0 → ∀ b, b < 0 → a ≠ b → (TX2 a).2.1 ≠ (TX2 b).2.1 := by decide +kernel
theorem tyX2_ok : ∀ k, k < 0 → parseFieldDescriptor (TX2 k).2.2.1 = some (tyX2 k) := by decide +kernel
abbrev cX2_isAbove : ByteArray := prog_4_method_2_code
def yX2_isAbove : MethodName := ⟨RX2, "isAbove", "(JJ)Z"⟩
abbrev cX2_highOfProduct : ByteArray := prog_4_method_3_code
def yX2_highOfProduct : MethodName := ⟨RX2, "highOfProduct", "(JJ)J"⟩
abbrev cX2_highOfSignedProduct : ByteArray := prog_4_method_4_code
def yX2_highOfSignedProduct : MethodName := ⟨RX2, "highOfSignedProduct", "(JJ)J"⟩
abbrev cX2_isWholeShift : ByteArray := prog_4_method_5_code
def yX2_isWholeShift : MethodName := ⟨RX2, "isWholeShift", "(J)Z"⟩
abbrev cX2_shiftLeft : ByteArray := prog_4_method_6_code
def yX2_shiftLeft : MethodName := ⟨RX2, "shiftLeft", "(JJ)J"⟩
abbrev cX2_shiftRight : ByteArray := prog_4_method_7_code
def yX2_shiftRight : MethodName := ⟨RX2, "shiftRight", "(JJ)J"⟩
abbrev cX2_shiftRightUnsigned : ByteArray := prog_4_method_8_code
def yX2_shiftRightUnsigned : MethodName := ⟨RX2, "shiftRightUnsigned", "(JJ)J"⟩
abbrev cX2_signed : ByteArray := prog_4_method_9_code
def yX2_signed : MethodName := ⟨RX2, "signed", "(JI)J"⟩
abbrev cX2_bitwise : ByteArray := prog_4_method_10_code
def yX2_bitwise : MethodName := ⟨RX2, "bitwise", "(IJJ)J"⟩
abbrev cX2_differences : ByteArray := prog_4_method_11_code
def yX2_differences : MethodName := ⟨RX2, "differences", "(JJI)J"⟩
abbrev cX2_matrixProduct : ByteArray := prog_4_method_12_code
def yX2_matrixProduct : MethodName := ⟨RX2, "matrixProduct", "(JJZ)J"⟩
def RX3 : String := "MixBench"
def TX3 : u_T := fun k => match k with
  | 0 => ("MixBench", "registers", "[J", true)
  | 1 => ("MixBench", "specials", "[J", true)
  | 2 => ("MixBench", "tallies", "[J", true)
  | 3 => ("MixBench", "outputBytes", "[B", true)
  | 4 => ("MixBench", "memory", "LMixBench$Memory;", true)
  | 5 => ("MixBench", "outputLength", "I", false)
  | 6 => ("MixBench", "place", "I", false)
  | 7 => ("MixBench", "pc", "J", false)
  | 8 => ("MixBench", "oops", "J", false)
  | 9 => ("MixBench", "mems", "J", false)
  | 10 => ("MixBench", "trail", "J", false)
  | _ => ("MixBench", "lastTally", "J", false)
def tyX3 : Nat → FieldType := fun k => match k with
  | 0 => .array .long
  | 1 => .array .long
  | 2 => .array .long
  | 3 => .array .byte
  | 4 => .object "MixBench$Memory"
  | 5 => .int
  | 6 => .int
  | 7 => .long
  | 8 => .long
  | 9 => .long
  | 10 => .long
  | _ => .long
abbrev wsX30 : List Cond := u_ws RX3 TX3 12
theorem nmX3 : ∀ a, a < 12 → ∀ b, b < 12 → a ≠ b → (TX3 a).2.1 ≠ (TX3 b).2.1 := by decide +kernel
theorem tyX3_ok : ∀ k, k < 12 → parseFieldDescriptor (TX3 k).2.2.1 = some (tyX3 k) := by decide +kernel
abbrev cX3_init : ByteArray := prog_1_method_1_code
def yX3_init : MethodName := ⟨RX3, "<init>", "()V"⟩
abbrev cX3_set : ByteArray := prog_1_method_2_code
def yX3_set : MethodName := ⟨RX3, "set", "(IJ)J"⟩
abbrev cX3_get : ByteArray := prog_1_method_3_code
def yX3_get : MethodName := ⟨RX3, "get", "(I)J"⟩
abbrev cX3_poke : ByteArray := prog_1_method_4_code
def yX3_poke : MethodName := ⟨RX3, "poke", "(IJ)J"⟩
abbrev cX3_peek : ByteArray := prog_1_method_5_code
def yX3_peek : MethodName := ⟨RX3, "peek", "(I)J"⟩
abbrev cX3_at : ByteArray := prog_1_method_6_code
def yX3_at : MethodName := ⟨RX3, "at", "(I)I"⟩
abbrev cX3_put : ByteArray := prog_1_method_7_code
def yX3_put : MethodName := ⟨RX3, "put", "(IIII)I"⟩
abbrev cX3_go : ByteArray := prog_1_method_8_code
def yX3_go : MethodName := ⟨RX3, "go", "(II)I"⟩
abbrev cX3_mark : ByteArray := prog_1_method_9_code
def yX3_mark : MethodName := ⟨RX3, "mark", "()J"⟩
abbrev cX3_tally : ByteArray := prog_1_method_10_code
def yX3_tally : MethodName := ⟨RX3, "tally", "(I)J"⟩
abbrev cX3_spend : ByteArray := prog_1_method_11_code
def yX3_spend : MethodName := ⟨RX3, "spend", "(I)J"⟩
abbrev cX3_output : ByteArray := prog_1_method_12_code
def yX3_output : MethodName := ⟨RX3, "output", "(I)I"⟩
abbrev cX3_count : ByteArray := prog_1_method_13_code
def yX3_count : MethodName := ⟨RX3, "count", "(I)J"⟩
abbrev cX3_isBeyond : ByteArray := prog_1_method_14_code
def yX3_isBeyond : MethodName := ⟨RX3, "isBeyond", "(J)Z"⟩
abbrev cX3_opOf : ByteArray := prog_1_method_15_code
def yX3_opOf : MethodName := ⟨RX3, "opOf", "(I)I"⟩
abbrev cX3_byteX : ByteArray := prog_1_method_16_code
def yX3_byteX : MethodName := ⟨RX3, "byteX", "(I)I"⟩
abbrev cX3_byteY : ByteArray := prog_1_method_17_code
def yX3_byteY : MethodName := ⟨RX3, "byteY", "(I)I"⟩
abbrev cX3_byteZ : ByteArray := prog_1_method_18_code
def yX3_byteZ : MethodName := ⟨RX3, "byteZ", "(I)I"⟩
abbrev cX3_wydeYZ : ByteArray := prog_1_method_19_code
def yX3_wydeYZ : MethodName := ⟨RX3, "wydeYZ", "(I)I"⟩
abbrev cX3_doNext : ByteArray := prog_1_method_20_code
def yX3_doNext : MethodName := ⟨RX3, "doNext", "()I"⟩
abbrev cX3_followFetch : ByteArray := prog_1_method_21_code
def yX3_followFetch : MethodName := ⟨RX3, "followFetch", "(I)V"⟩
abbrev cX3_isLegal : ByteArray := prog_1_method_22_code
def yX3_isLegal : MethodName := ⟨RX3, "isLegal", "(I)Z"⟩
abbrev cX3_isLoadOrStore : ByteArray := prog_1_method_23_code
def yX3_isLoadOrStore : MethodName := ⟨RX3, "isLoadOrStore", "(I)Z"⟩
abbrev cX3_isGo : ByteArray := prog_1_method_24_code
def yX3_isGo : MethodName := ⟨RX3, "isGo", "(I)Z"⟩
abbrev cX3_operandZ : ByteArray := prog_1_method_25_code
def yX3_operandZ : MethodName := ⟨RX3, "operandZ", "(I)J"⟩
abbrev cX3_bill : ByteArray := prog_1_method_26_code
def yX3_bill : MethodName := ⟨RX3, "bill", "(IZ)V"⟩
abbrev cX3_leastOops : ByteArray := prog_1_method_27_code
def yX3_leastOops : MethodName := ⟨RX3, "leastOops", "(I)I"⟩
abbrev cX3_perform : ByteArray := prog_1_method_28_code
def yX3_perform : MethodName := ⟨RX3, "perform", "(IJJ)V"⟩
abbrev cX3_writeX : ByteArray := prog_1_method_29_code
def yX3_writeX : MethodName := ⟨RX3, "writeX", "(IJ)V"⟩
abbrev cX3_trap : ByteArray := prog_1_method_30_code
def yX3_trap : MethodName := ⟨RX3, "trap", "(IJ)V"⟩
abbrev cX3_raise : ByteArray := prog_1_method_31_code
def yX3_raise : MethodName := ⟨RX3, "raise", "(JZ)V"⟩
abbrev cX3_productOrQuotient : ByteArray := prog_1_method_32_code
def yX3_productOrQuotient : MethodName := ⟨RX3, "productOrQuotient", "(IJJ)J"⟩
abbrev cX3_quotient : ByteArray := prog_1_method_33_code
def yX3_quotient : MethodName := ⟨RX3, "quotient", "(JJ)J"⟩
abbrev cX3_longQuotient : ByteArray := prog_1_method_34_code
def yX3_longQuotient : MethodName := ⟨RX3, "longQuotient", "(JJJ)J"⟩
abbrev cX3_sumOrDifference : ByteArray := prog_1_method_35_code
def yX3_sumOrDifference : MethodName := ⟨RX3, "sumOrDifference", "(IJJ)J"⟩
abbrev cX3_checkedSum : ByteArray := prog_1_method_36_code
def yX3_checkedSum : MethodName := ⟨RX3, "checkedSum", "(JJ)J"⟩
abbrev cX3_checkedDifference : ByteArray := prog_1_method_37_code
def yX3_checkedDifference : MethodName := ⟨RX3, "checkedDifference", "(JJ)J"⟩
abbrev cX3_comparedOrShifted : ByteArray := prog_1_method_38_code
def yX3_comparedOrShifted : MethodName := ⟨RX3, "comparedOrShifted", "(IJJ)J"⟩
abbrev cX3_checkedShift : ByteArray := prog_1_method_39_code
def yX3_checkedShift : MethodName := ⟨RX3, "checkedShift", "(JJ)J"⟩
abbrev cX3_holds : ByteArray := prog_1_method_40_code
def yX3_holds : MethodName := ⟨RX3, "holds", "(IJ)Z"⟩
abbrev cX3_branch : ByteArray := prog_1_method_41_code
def yX3_branch : MethodName := ⟨RX3, "branch", "(IJ)V"⟩
abbrev cX3_relative : ByteArray := prog_1_method_42_code
def yX3_relative : MethodName := ⟨RX3, "relative", "(IJ)J"⟩
abbrev cX3_choose : ByteArray := prog_1_method_43_code
def yX3_choose : MethodName := ⟨RX3, "choose", "(IJJ)V"⟩
abbrev cX3_sizeOf : ByteArray := prog_1_method_44_code
def yX3_sizeOf : MethodName := ⟨RX3, "sizeOf", "(I)I"⟩
abbrev cX3_isUnsigned : ByteArray := prog_1_method_45_code
def yX3_isUnsigned : MethodName := ⟨RX3, "isUnsigned", "(I)Z"⟩
abbrev cX3_loadOrGo : ByteArray := prog_1_method_46_code
def yX3_loadOrGo : MethodName := ⟨RX3, "loadOrGo", "(IJJ)V"⟩
abbrev cX3_storeX : ByteArray := prog_1_method_47_code
def yX3_storeX : MethodName := ⟨RX3, "storeX", "(IJ)V"⟩
abbrev cX3_bytewise : ByteArray := prog_1_method_48_code
def yX3_bytewise : MethodName := ⟨RX3, "bytewise", "(IJJ)J"⟩
abbrev cX3_withWyde : ByteArray := prog_1_method_49_code
def yX3_withWyde : MethodName := ⟨RX3, "withWyde", "(I)J"⟩
abbrev cX3_performRest : ByteArray := prog_1_method_50_code
def yX3_performRest : MethodName := ⟨RX3, "performRest", "(IJJ)V"⟩
def RX4 : String := "MixBenchModel"
def TX4 : u_T := fun k => match k with
  | 0 => ("MixBenchModel", "thrown", "I", false)
  | 1 => ("MixBenchModel", "g", "[J", true)
  | 2 => ("MixBenchModel", "special", "[J", true)
  | 3 => ("MixBenchModel", "tallies", "[J", true)
  | 4 => ("MixBenchModel", "memory", "[B", true)
  | 5 => ("MixBenchModel", "output", "[B", true)
  | 6 => ("MixBenchModel", "outputs", "I", false)
  | 7 => ("MixBenchModel", "place", "I", false)
  | 8 => ("MixBenchModel", "pc", "J", false)
  | 9 => ("MixBenchModel", "oops", "J", false)
  | 10 => ("MixBenchModel", "mems", "J", false)
  | 11 => ("MixBenchModel", "trail", "J", false)
  | 12 => ("MixBenchModel", "last", "J", false)
  | 13 => ("MixBenchModel", "names", "[I", true)
  | 14 => ("MixBenchModel", "codes", "[I", true)
  | 15 => ("MixBenchModel", "count", "I", false)
  | _ => ("MixBenchModel", "late", "Z", false)
def tyX4 : Nat → FieldType := fun k => match k with
  | 0 => .int
  | 1 => .array .long
  | 2 => .array .long
  | 3 => .array .long
  | 4 => .array .byte
  | 5 => .array .byte
  | 6 => .int
  | 7 => .int
  | 8 => .long
  | 9 => .long
  | 10 => .long
  | 11 => .long
  | 12 => .long
  | 13 => .array .int
  | 14 => .array .int
  | 15 => .int
  | _ => .boolean
abbrev wsX40 : List Cond := u_ws RX4 TX4 17
theorem nmX4 : ∀ a, a < 17 → ∀ b, b < 17 → a ≠ b → (TX4 a).2.1 ≠ (TX4 b).2.1 := by decide +kernel
theorem tyX4_ok : ∀ k, k < 17 → parseFieldDescriptor (TX4 k).2.2.1 = some (tyX4 k) := by decide +kernel
abbrev cX4_init : ByteArray := prog_6_method_1_code
def yX4_init : MethodName := ⟨RX4, "<init>", "()V"⟩
abbrev cX4_numbers : ByteArray := prog_6_method_2_code
def yX4_numbers : MethodName := ⟨RX4, "numbers", "()V"⟩
abbrev cX4_conditions : ByteArray := prog_6_method_3_code
def yX4_conditions : MethodName := ⟨RX4, "conditions", "()V"⟩
abbrev cX4_accesses : ByteArray := prog_6_method_4_code
def yX4_accesses : MethodName := ⟨RX4, "accesses", "()V"⟩
abbrev cX4_bitNames : ByteArray := prog_6_method_5_code
def yX4_bitNames : MethodName := ⟨RX4, "bitNames", "()V"⟩
abbrev cX4_others : ByteArray := prog_6_method_6_code
def yX4_others : MethodName := ⟨RX4, "others", "()V"⟩
abbrev cX4_pair : ByteArray := prog_6_method_7_code
def yX4_pair : MethodName := ⟨RX4, "pair", "(III)V"⟩
abbrev cX4_add : ByteArray := prog_6_method_8_code
def yX4_add : MethodName := ⟨RX4, "add", "(II)V"⟩
abbrev cX4_thrown : ByteArray := prog_6_method_9_code
def yX4_thrown : MethodName := ⟨RX4, "thrown", "()I"⟩
abbrev cX4_fail : ByteArray := prog_6_method_10_code
def yX4_fail : MethodName := ⟨RX4, "fail", "(I)I"⟩
abbrev cX4_beyond : ByteArray := prog_6_method_11_code
def yX4_beyond : MethodName := ⟨RX4, "beyond", "(J)Z"⟩
abbrev cX4_m : ByteArray := prog_6_method_12_code
def yX4_m : MethodName := ⟨RX4, "m", "(JI)J"⟩
abbrev cX4_m_ : ByteArray := prog_6_method_13_code
def yX4_m_ : MethodName := ⟨RX4, "m", "(JIJ)V"⟩
abbrev cX4_signed : ByteArray := prog_6_method_14_code
def yX4_signed : MethodName := ⟨RX4, "signed", "(JI)J"⟩
abbrev cX4_over : ByteArray := prog_6_method_15_code
def yX4_over : MethodName := ⟨RX4, "over", "(Z)V"⟩
abbrev cX4_above : ByteArray := prog_6_method_16_code
def yX4_above : MethodName := ⟨RX4, "above", "(JJ)Z"⟩
abbrev cX4_holds : ByteArray := prog_6_method_17_code
def yX4_holds : MethodName := ⟨RX4, "holds", "(IJ)Z"⟩
abbrev cX4_step : ByteArray := prog_6_method_18_code
def yX4_step : MethodName := ⟨RX4, "step", "()I"⟩
abbrev cX4_branch : ByteArray := prog_6_method_19_code
def yX4_branch : MethodName := ⟨RX4, "branch", "(III)I"⟩
abbrev cX4_number : ByteArray := prog_6_method_20_code
def yX4_number : MethodName := ⟨RX4, "number", "(II)J"⟩
abbrev cX4_done : ByteArray := prog_6_method_21_code
def yX4_done : MethodName := ⟨RX4, "done", "(IJ)I"⟩
abbrev cX4_on : ByteArray := prog_6_method_22_code
def yX4_on : MethodName := ⟨RX4, "on", "()I"⟩
abbrev cX4_low : ByteArray := prog_6_method_23_code
def yX4_low : MethodName := ⟨RX4, "low", "(IIII)I"⟩
abbrev cX4_upper : ByteArray := prog_6_method_24_code
def yX4_upper : MethodName := ⟨RX4, "upper", "(JJ)J"⟩
abbrev cX4_quotient : ByteArray := prog_6_method_25_code
def yX4_quotient : MethodName := ⟨RX4, "quotient", "(JJ)J"⟩
abbrev cX4_quotientOf : ByteArray := prog_6_method_26_code
def yX4_quotientOf : MethodName := ⟨RX4, "quotientOf", "(JJ)J"⟩
abbrev cX4_trap : ByteArray := prog_6_method_27_code
def yX4_trap : MethodName := ⟨RX4, "trap", "(III)I"⟩
abbrev cX4_choose : ByteArray := prog_6_method_28_code
def yX4_choose : MethodName := ⟨RX4, "choose", "(IIII)I"⟩
abbrev cX4_access : ByteArray := prog_6_method_29_code
def yX4_access : MethodName := ⟨RX4, "access", "(IIII)I"⟩
abbrev cX4_bits : ByteArray := prog_6_method_30_code
def yX4_bits : MethodName := ⟨RX4, "bits", "(IIII)I"⟩
abbrev cX4_differences : ByteArray := prog_6_method_31_code
def yX4_differences : MethodName := ⟨RX4, "differences", "(JJI)J"⟩
abbrev cX4_matrix : ByteArray := prog_6_method_32_code
def yX4_matrix : MethodName := ⟨RX4, "matrix", "(JJZ)J"⟩
abbrev cX4_high : ByteArray := prog_6_method_33_code
def yX4_high : MethodName := ⟨RX4, "high", "(IIIII)I"⟩
abbrev cX4_set : ByteArray := prog_6_method_34_code
def yX4_set : MethodName := ⟨RX4, "set", "(IJ)J"⟩
abbrev cX4_get : ByteArray := prog_6_method_35_code
def yX4_get : MethodName := ⟨RX4, "get", "(I)J"⟩
abbrev cX4_poke : ByteArray := prog_6_method_36_code
def yX4_poke : MethodName := ⟨RX4, "poke", "(IJ)J"⟩
abbrev cX4_peek : ByteArray := prog_6_method_37_code
def yX4_peek : MethodName := ⟨RX4, "peek", "(I)J"⟩
abbrev cX4_at : ByteArray := prog_6_method_38_code
def yX4_at : MethodName := ⟨RX4, "at", "(I)I"⟩
abbrev cX4_put : ByteArray := prog_6_method_39_code
def yX4_put : MethodName := ⟨RX4, "put", "(IIII)I"⟩
abbrev cX4_go : ByteArray := prog_6_method_40_code
def yX4_go : MethodName := ⟨RX4, "go", "(II)I"⟩
abbrev cX4_mark : ByteArray := prog_6_method_41_code
def yX4_mark : MethodName := ⟨RX4, "mark", "()J"⟩
abbrev cX4_tally : ByteArray := prog_6_method_42_code
def yX4_tally : MethodName := ⟨RX4, "tally", "(I)J"⟩
abbrev cX4_spend : ByteArray := prog_6_method_43_code
def yX4_spend : MethodName := ⟨RX4, "spend", "(I)J"⟩
abbrev cX4_output : ByteArray := prog_6_method_44_code
def yX4_output : MethodName := ⟨RX4, "output", "(I)I"⟩
abbrev cX4_count : ByteArray := prog_6_method_45_code
def yX4_count : MethodName := ⟨RX4, "count", "(I)J"⟩
def RJx145de : String := "java/io/Serializable"
def TJx145de : u_T := fun k => match k with
  | _ => ("", "", "", false)
def tyJx145de : Nat → FieldType := fun k => match k with
  | _ => .int
abbrev wsJx145de0 : List Cond := u_ws RJx145de TJx145de 0
theorem nmJx145de : ∀ a, a < 0 → ∀ b, b < 0 → a ≠ b → (TJx145de a).2.1 ≠ (TJx145de b).2.1 := by decide +kernel
theorem tyJx145de_ok : ∀ k, k < 0 → parseFieldDescriptor (TJx145de k).2.2.1 = some (tyJx145de k) := by decide +kernel
def RJx9f9b0 : String := "java/lang/CharSequence"
def TJx9f9b0 : u_T := fun k => match k with
  | _ => ("", "", "", false)
def tyJx9f9b0 : Nat → FieldType := fun k => match k with
  | _ => .int
abbrev wsJx9f9b00 : List Cond := u_ws RJx9f9b0 TJx9f9b0 0
theorem nmJx9f9b0 : ∀ a, a < 0 → ∀ b, b < 0 → a ≠ b → (TJx9f9b0 a).2.1 ≠ (TJx9f9b0 b).2.1 := by decide +kernel
theorem tyJx9f9b0_ok : ∀ k, k < 0 → parseFieldDescriptor (TJx9f9b0 k).2.2.1 = some (tyJx9f9b0 k) := by decide +kernel
def RJxb160c : String := "java/lang/Comparable"
def TJxb160c : u_T := fun k => match k with
  | _ => ("", "", "", false)
def tyJxb160c : Nat → FieldType := fun k => match k with
  | _ => .int
abbrev wsJxb160c0 : List Cond := u_ws RJxb160c TJxb160c 0
theorem nmJxb160c : ∀ a, a < 0 → ∀ b, b < 0 → a ≠ b → (TJxb160c a).2.1 ≠ (TJxb160c b).2.1 := by decide +kernel
theorem tyJxb160c_ok : ∀ k, k < 0 → parseFieldDescriptor (TJxb160c k).2.2.1 = some (tyJxb160c k) := by decide +kernel
def RJ13 : String := "java/lang/Long"
def TJ13 : u_T := fun k => match k with
  | _ => ("", "", "", false)
def tyJ13 : Nat → FieldType := fun k => match k with
  | _ => .int
abbrev wsJ130 : List Cond := u_ws RJ13 TJ13 0
theorem nmJ13 : ∀ a, a < 0 → ∀ b, b < 0 → a ≠ b → (TJ13 a).2.1 ≠ (TJ13 b).2.1 := by decide +kernel
theorem tyJ13_ok : ∀ k, k < 0 → parseFieldDescriptor (TJ13 k).2.2.1 = some (tyJ13 k) := by decide +kernel
abbrev cJ13_bitCount_95d88 : ByteArray := prog_13_method_50_code
def yJ13_bitCount_95d88 : MethodName := ⟨RJ13, "bitCount", "(J)I"⟩
def RJ9 : String := "java/lang/Math"
def TJ9 : u_T := fun k => match k with
  | _ => ("", "", "", false)
def tyJ9 : Nat → FieldType := fun k => match k with
  | _ => .int
abbrev wsJ90 : List Cond := u_ws RJ9 TJ9 0
theorem nmJ9 : ∀ a, a < 0 → ∀ b, b < 0 → a ≠ b → (TJ9 a).2.1 ≠ (TJ9 b).2.1 := by decide +kernel
theorem tyJ9_ok : ∀ k, k < 0 → parseFieldDescriptor (TJ9 k).2.2.1 = some (tyJ9 k) := by decide +kernel
abbrev cJ9_floorDiv_f86c9 : ByteArray := prog_14_method_49_code
def yJ9_floorDiv_f86c9 : MethodName := ⟨RJ9, "floorDiv", "(JJ)J"⟩
def RJ0 : String := "java/lang/String"
def TJ0 : u_T := fun k => match k with
  | _ => ("", "", "", false)
def tyJ0 : Nat → FieldType := fun k => match k with
  | _ => .int
abbrev wsJ00 : List Cond := u_ws RJ0 TJ0 0
theorem nmJ0 : ∀ a, a < 0 → ∀ b, b < 0 → a ≠ b → (TJ0 a).2.1 ≠ (TJ0 b).2.1 := by decide +kernel
theorem tyJ0_ok : ∀ k, k < 0 → parseFieldDescriptor (TJ0 k).2.2.1 = some (tyJ0 k) := by decide +kernel
abbrev cJ0_length_8abf5 : ByteArray := prog_16_method_54_code
def yJ0_length_8abf5 : MethodName := ⟨RJ0, "length", "()I"⟩
abbrev cJ0_charAt_5068e : ByteArray := prog_16_method_56_code
def yJ0_charAt_5068e : MethodName := ⟨RJ0, "charAt", "(I)C"⟩
abbrev cJ0_coder_7d493 : ByteArray := prog_16_method_152_code
def yJ0_coder_7d493 : MethodName := ⟨RJ0, "coder", "()B"⟩
abbrev cJ0_isLatin1_aae02 : ByteArray := prog_16_method_154_code
def yJ0_isLatin1_aae02 : MethodName := ⟨RJ0, "isLatin1", "()Z"⟩
abbrev cJ0_checkIndex_df160 : ByteArray := prog_16_method_155_code
def yJ0_checkIndex_df160 : MethodName := ⟨RJ0, "checkIndex", "(II)V"⟩
def RJ1 : String := "java/lang/StringLatin1"
def TJ1 : u_T := fun k => match k with
  | _ => ("", "", "", false)
def tyJ1 : Nat → FieldType := fun k => match k with
  | _ => .int
abbrev wsJ10 : List Cond := u_ws RJ1 TJ1 0
theorem nmJ1 : ∀ a, a < 0 → ∀ b, b < 0 → a ≠ b → (TJ1 a).2.1 ≠ (TJ1 b).2.1 := by decide +kernel
theorem tyJ1_ok : ∀ k, k < 0 → parseFieldDescriptor (TJ1 k).2.2.1 = some (tyJ1 k) := by decide +kernel
abbrev cJ1_charAt_3b067 : ByteArray := prog_17_method_2_code
def yJ1_charAt_3b067 : MethodName := ⟨RJ1, "charAt", "([BI)C"⟩
def RJ2 : String := "java/lang/StringUTF16"
def TJ2 : u_T := fun k => match k with
  | _ => ("", "", "", false)
def tyJ2 : Nat → FieldType := fun k => match k with
  | _ => .int
abbrev wsJ20 : List Cond := u_ws RJ2 TJ2 0
theorem nmJ2 : ∀ a, a < 0 → ∀ b, b < 0 → a ≠ b → (TJ2 a).2.1 ≠ (TJ2 b).2.1 := by decide +kernel
theorem tyJ2_ok : ∀ k, k < 0 → parseFieldDescriptor (TJ2 k).2.2.1 = some (tyJ2 k) := by decide +kernel
abbrev cJ2_getChar_3b067 : ByteArray := prog_18_method_5_code
def yJ2_getChar_3b067 : MethodName := ⟨RJ2, "getChar", "([BI)C"⟩
abbrev cJ2_length_9d52b : ByteArray := prog_18_method_6_code
def yJ2_length_9d52b : MethodName := ⟨RJ2, "length", "([B)I"⟩
abbrev cJ2_charAt_3b067 : ByteArray := prog_18_method_83_code
def yJ2_charAt_3b067 : MethodName := ⟨RJ2, "charAt", "([BI)C"⟩
abbrev cJ2_checkIndex_2214a : ByteArray := prog_18_method_91_code
def yJ2_checkIndex_2214a : MethodName := ⟨RJ2, "checkIndex", "(I[B)V"⟩
def RJxfd54e : String := "java/lang/constant/Constable"
def TJxfd54e : u_T := fun k => match k with
  | _ => ("", "", "", false)
def tyJxfd54e : Nat → FieldType := fun k => match k with
  | _ => .int
abbrev wsJxfd54e0 : List Cond := u_ws RJxfd54e TJxfd54e 0
theorem nmJxfd54e : ∀ a, a < 0 → ∀ b, b < 0 → a ≠ b → (TJxfd54e a).2.1 ≠ (TJxfd54e b).2.1 := by decide +kernel
theorem tyJxfd54e_ok : ∀ k, k < 0 → parseFieldDescriptor (TJxfd54e k).2.2.1 = some (tyJxfd54e k) := by decide +kernel
def RJx3cf43 : String := "java/lang/constant/ConstantDesc"
def TJx3cf43 : u_T := fun k => match k with
  | _ => ("", "", "", false)
def tyJx3cf43 : Nat → FieldType := fun k => match k with
  | _ => .int
abbrev wsJx3cf430 : List Cond := u_ws RJx3cf43 TJx3cf43 0
theorem nmJx3cf43 : ∀ a, a < 0 → ∀ b, b < 0 → a ≠ b → (TJx3cf43 a).2.1 ≠ (TJx3cf43 b).2.1 := by decide +kernel
theorem tyJx3cf43_ok : ∀ k, k < 0 → parseFieldDescriptor (TJx3cf43 k).2.2.1 = some (tyJx3cf43 k) := by decide +kernel
def RJ3 : String := "jdk/internal/util/Preconditions"
def TJ3 : u_T := fun k => match k with
  | _ => ("", "", "", false)
def tyJ3 : Nat → FieldType := fun k => match k with
  | _ => .int
abbrev wsJ30 : List Cond := u_ws RJ3 TJ3 0
theorem nmJ3 : ∀ a, a < 0 → ∀ b, b < 0 → a ≠ b → (TJ3 a).2.1 ≠ (TJ3 b).2.1 := by decide +kernel
theorem tyJ3_ok : ∀ k, k < 0 → parseFieldDescriptor (TJ3 k).2.2.1 = some (tyJ3 k) := by decide +kernel
abbrev cJ3_checkIndex_8e157 : ByteArray := prog_23_method_11_code
def yJ3_checkIndex_8e157 : MethodName := ⟨RJ3, "checkIndex", "(IILjava/util/function/BiFunction;)I"⟩
def RL : String := "MixBenchLaw"
abbrev cL_set : ByteArray := method_3_code
def yL_set : MethodName := ⟨RL, "set", "(LMixBench;IJ[J)I"⟩
abbrev cL_get : ByteArray := method_4_code
def yL_get : MethodName := ⟨RL, "get", "(LMixBench;I[J)I"⟩
abbrev cL_poke : ByteArray := method_5_code
def yL_poke : MethodName := ⟨RL, "poke", "(LMixBench;IJ[J)I"⟩
abbrev cL_peek : ByteArray := method_6_code
def yL_peek : MethodName := ⟨RL, "peek", "(LMixBench;I[J)I"⟩
abbrev cL_at : ByteArray := method_7_code
def yL_at : MethodName := ⟨RL, "at", "(LMixBench;I[J)I"⟩
abbrev cL_put : ByteArray := method_8_code
def yL_put : MethodName := ⟨RL, "put", "(LMixBench;IIII[J)I"⟩
abbrev cL_go : ByteArray := method_9_code
def yL_go : MethodName := ⟨RL, "go", "(LMixBench;II[J)I"⟩
abbrev cL_tally : ByteArray := method_10_code
def yL_tally : MethodName := ⟨RL, "tally", "(LMixBench;I[J)I"⟩
abbrev cL_spend : ByteArray := method_11_code
def yL_spend : MethodName := ⟨RL, "spend", "(LMixBench;I[J)I"⟩
abbrev cL_output : ByteArray := method_12_code
def yL_output : MethodName := ⟨RL, "output", "(LMixBench;I[J)I"⟩
abbrev cL_law : ByteArray := code
def yL_law : MethodName := ⟨RL, "law", "([I)Z"⟩
def wsX0_init : List Cond := .code yX0_init cX0_init 1 none :: ([.methodLink RX0 3 objectInit, .instanceMethod objectInit, .code objectInit ⟨#[0xb1]⟩ 1 none, .arrayClass .long, .fieldLink RX0 9 "MixBench$Memory" "octas" "[J"] ++ wsX00)
def wsX0_octaOf : List Cond := .code yX0_octaOf cX0_octaOf 2 (some .int) :: ([])
def wsX0_shiftOf : List Cond := .code yX0_shiftOf cX0_shiftOf 4 (some .int) :: ([])
def wsX0_maskOf : List Cond := .code yX0_maskOf cX0_maskOf 1 (some .long) :: ([.constantLong RX0 15 (-1)])
def wsX0_load : List Cond := .code yX0_load cX0_load 4 (some .long) :: ([.fieldLink RX0 9 "MixBench$Memory" "octas" "[J", .methodLink RX0 17 yX0_octaOf, .static yX0_octaOf, .initialized RX0, .code yX0_octaOf cX0_octaOf 2 (some .int), .methodLink RX0 21 yX0_shiftOf, .static yX0_shiftOf, .code yX0_shiftOf cX0_shiftOf 4 (some .int), .methodLink RX0 25 yX0_maskOf, .static yX0_maskOf, .code yX0_maskOf cX0_maskOf 1 (some .long), .constantLong RX0 15 (-1)] ++ wsX00)
def wsX0_store : List Cond := .code yX0_store cX0_store 9 none :: ([.fieldLink RX0 9 "MixBench$Memory" "octas" "[J", .constantLong RX0 15 (-1), .methodLink RX0 21 yX0_shiftOf, .static yX0_shiftOf, .initialized RX0, .code yX0_shiftOf cX0_shiftOf 4 (some .int), .methodLink RX0 17 yX0_octaOf, .static yX0_octaOf, .code yX0_octaOf cX0_octaOf 2 (some .int), .methodLink RX0 25 yX0_maskOf, .static yX0_maskOf, .code yX0_maskOf cX0_maskOf 1 (some .long)] ++ wsX00)
def wsJ0_coder_7d493 : List Cond := .code yJ0_coder_7d493 cJ0_coder_7d493 1 (some .byte) :: ([.fieldLink RJ0 38 "java/lang/String" "COMPACT_STRINGS" "Z", .fieldLink RJ0 15 "java/lang/String" "coder" "B"])
def wsJ0_length_8abf5 : List Cond := .code yJ0_length_8abf5 cJ0_length_8abf5 1 (some .int) :: ([.fieldLink RJ0 9 "java/lang/String" "value" "[B", .methodLink RJ0 335 yJ0_coder_7d493, .instanceMethod yJ0_coder_7d493, .selects RJ0 yJ0_coder_7d493 yJ0_coder_7d493, .initialized RJ0, .code yJ0_coder_7d493 cJ0_coder_7d493 1 (some .byte), .fieldLink RJ0 38 "java/lang/String" "COMPACT_STRINGS" "Z", .fieldLink RJ0 15 "java/lang/String" "coder" "B"])
def wsJ0_isLatin1_aae02 : List Cond := .code yJ0_isLatin1_aae02 cJ0_isLatin1_aae02 1 (some .boolean) :: ([.fieldLink RJ0 38 "java/lang/String" "COMPACT_STRINGS" "Z", .fieldLink RJ0 15 "java/lang/String" "coder" "B"])
def wsJ3_checkIndex_8e157 : List Cond := .code yJ3_checkIndex_8e157 cJ3_checkIndex_8e157 3 (some .int) :: ([])
def wsJ0_checkIndex_df160 : List Cond := .code yJ0_checkIndex_df160 cJ0_checkIndex_df160 2 none :: ([.fieldLink RJ0 1053 "jdk/internal/util/Preconditions" "SIOOBE_FORMATTER" "Ljava/util/function/BiFunction;", .methodLink RJ0 1059 yJ3_checkIndex_8e157, .static yJ3_checkIndex_8e157, .initialized RJ3, .code yJ3_checkIndex_8e157 cJ3_checkIndex_8e157 3 (some .int)])
def wsJ1_charAt_3b067 : List Cond := .code yJ1_charAt_3b067 cJ1_charAt_3b067 2 (some .char) :: ([.methodLink RJ1 9 yJ0_checkIndex_df160, .static yJ0_checkIndex_df160, .initialized RJ0, .code yJ0_checkIndex_df160 cJ0_checkIndex_df160 2 none, .fieldLink RJ0 1053 "jdk/internal/util/Preconditions" "SIOOBE_FORMATTER" "Ljava/util/function/BiFunction;", .methodLink RJ0 1059 yJ3_checkIndex_8e157, .static yJ3_checkIndex_8e157, .initialized RJ3, .code yJ3_checkIndex_8e157 cJ3_checkIndex_8e157 3 (some .int)])
def wsJ2_length_9d52b : List Cond := .code yJ2_length_9d52b cJ2_length_9d52b 1 (some .int) :: ([])
def wsJ2_checkIndex_2214a : List Cond := .code yJ2_checkIndex_2214a cJ2_checkIndex_2214a 2 none :: ([.methodLink RJ2 48 yJ2_length_9d52b, .static yJ2_length_9d52b, .initialized RJ2, .code yJ2_length_9d52b cJ2_length_9d52b 1 (some .int), .methodLink RJ2 414 yJ0_checkIndex_df160, .static yJ0_checkIndex_df160, .initialized RJ0, .code yJ0_checkIndex_df160 cJ0_checkIndex_df160 2 none, .fieldLink RJ0 1053 "jdk/internal/util/Preconditions" "SIOOBE_FORMATTER" "Ljava/util/function/BiFunction;", .methodLink RJ0 1059 yJ3_checkIndex_8e157, .static yJ3_checkIndex_8e157, .initialized RJ3, .code yJ3_checkIndex_8e157 cJ3_checkIndex_8e157 3 (some .int)])
def wsJ2_getChar_3b067 : List Cond := .code yJ2_getChar_3b067 cJ2_getChar_3b067 2 (some .char) :: ([.fieldLink RJ2 44 "java/lang/StringUTF16" "$assertionsDisabled" "Z", .fieldLink RJ2 59 "java/lang/StringUTF16" "HI_BYTE_SHIFT" "I", .fieldLink RJ2 63 "java/lang/StringUTF16" "LO_BYTE_SHIFT" "I", .methodLink RJ2 48 yJ2_length_9d52b, .static yJ2_length_9d52b, .initialized RJ2, .code yJ2_length_9d52b cJ2_length_9d52b 1 (some .int)])
def wsJ2_charAt_3b067 : List Cond := .code yJ2_charAt_3b067 cJ2_charAt_3b067 2 (some .char) :: ([.methodLink RJ2 67 yJ2_checkIndex_2214a, .static yJ2_checkIndex_2214a, .initialized RJ2, .code yJ2_checkIndex_2214a cJ2_checkIndex_2214a 2 none, .methodLink RJ2 48 yJ2_length_9d52b, .static yJ2_length_9d52b, .code yJ2_length_9d52b cJ2_length_9d52b 1 (some .int), .methodLink RJ2 414 yJ0_checkIndex_df160, .static yJ0_checkIndex_df160, .initialized RJ0, .code yJ0_checkIndex_df160 cJ0_checkIndex_df160 2 none, .fieldLink RJ0 1053 "jdk/internal/util/Preconditions" "SIOOBE_FORMATTER" "Ljava/util/function/BiFunction;", .methodLink RJ0 1059 yJ3_checkIndex_8e157, .static yJ3_checkIndex_8e157, .initialized RJ3, .code yJ3_checkIndex_8e157 cJ3_checkIndex_8e157 3 (some .int), .methodLink RJ2 71 yJ2_getChar_3b067, .static yJ2_getChar_3b067, .code yJ2_getChar_3b067 cJ2_getChar_3b067 2 (some .char), .fieldLink RJ2 44 "java/lang/StringUTF16" "$assertionsDisabled" "Z", .fieldLink RJ2 59 "java/lang/StringUTF16" "HI_BYTE_SHIFT" "I", .fieldLink RJ2 63 "java/lang/StringUTF16" "LO_BYTE_SHIFT" "I"])
def wsJ0_charAt_5068e_r1 : List Cond := [Cond.fieldLink RJ0 9 "java/lang/String" "value" "[B", Cond.methodLink RJ0 492 yJ0_isLatin1_aae02, Cond.instanceMethod yJ0_isLatin1_aae02, Cond.selects RJ0 yJ0_isLatin1_aae02 yJ0_isLatin1_aae02, Cond.initialized RJ0, Cond.code yJ0_isLatin1_aae02 cJ0_isLatin1_aae02 1 (some .boolean), Cond.fieldLink RJ0 38 "java/lang/String" "COMPACT_STRINGS" "Z", Cond.fieldLink RJ0 15 "java/lang/String" "coder" "B", Cond.methodLink RJ0 495 yJ1_charAt_3b067, Cond.static yJ1_charAt_3b067, Cond.initialized RJ1, Cond.code yJ1_charAt_3b067 cJ1_charAt_3b067 2 (some .char), Cond.methodLink RJ1 9 yJ0_checkIndex_df160, Cond.static yJ0_checkIndex_df160, Cond.code yJ0_checkIndex_df160 cJ0_checkIndex_df160 2 none, Cond.fieldLink RJ0 1053 "jdk/internal/util/Preconditions" "SIOOBE_FORMATTER" "Ljava/util/function/BiFunction;", Cond.methodLink RJ0 1059 yJ3_checkIndex_8e157, Cond.static yJ3_checkIndex_8e157, Cond.initialized RJ3, Cond.code yJ3_checkIndex_8e157 cJ3_checkIndex_8e157 3 (some .int), Cond.methodLink RJ0 498 yJ2_charAt_3b067, Cond.static yJ2_charAt_3b067, Cond.initialized RJ2, Cond.code yJ2_charAt_3b067 cJ2_charAt_3b067 2 (some .char)]
def wsJ0_charAt_5068e_r2 : List Cond := [Cond.methodLink RJ2 67 yJ2_checkIndex_2214a, Cond.static yJ2_checkIndex_2214a, Cond.code yJ2_checkIndex_2214a cJ2_checkIndex_2214a 2 none, Cond.methodLink RJ2 48 yJ2_length_9d52b, Cond.static yJ2_length_9d52b, Cond.code yJ2_length_9d52b cJ2_length_9d52b 1 (some .int), Cond.methodLink RJ2 414 yJ0_checkIndex_df160, Cond.methodLink RJ2 71 yJ2_getChar_3b067, Cond.static yJ2_getChar_3b067, Cond.code yJ2_getChar_3b067 cJ2_getChar_3b067 2 (some .char), Cond.fieldLink RJ2 44 "java/lang/StringUTF16" "$assertionsDisabled" "Z", Cond.fieldLink RJ2 59 "java/lang/StringUTF16" "HI_BYTE_SHIFT" "I", Cond.fieldLink RJ2 63 "java/lang/StringUTF16" "LO_BYTE_SHIFT" "I"]
def wsJ0_charAt_5068e : List Cond := .code yJ0_charAt_5068e cJ0_charAt_5068e 2 (some .char) :: ((wsJ0_charAt_5068e_r1 ++ wsJ0_charAt_5068e_r2))
def wsX1_placeOf_r1 : List Cond := [Cond.methodLink RX1 70 yJ0_length_8abf5, Cond.instanceMethod yJ0_length_8abf5, Cond.selects RJ0 yJ0_length_8abf5 yJ0_length_8abf5, Cond.initialized RJ0, Cond.code yJ0_length_8abf5 cJ0_length_8abf5 1 (some .int), Cond.fieldLink RJ0 9 "java/lang/String" "value" "[B", Cond.methodLink RJ0 335 yJ0_coder_7d493, Cond.instanceMethod yJ0_coder_7d493, Cond.selects RJ0 yJ0_coder_7d493 yJ0_coder_7d493, Cond.code yJ0_coder_7d493 cJ0_coder_7d493 1 (some .byte), Cond.fieldLink RJ0 38 "java/lang/String" "COMPACT_STRINGS" "Z", Cond.fieldLink RJ0 15 "java/lang/String" "coder" "B", Cond.methodLink RX1 76 yJ0_charAt_5068e, Cond.instanceMethod yJ0_charAt_5068e, Cond.selects RJ0 yJ0_charAt_5068e yJ0_charAt_5068e, Cond.code yJ0_charAt_5068e cJ0_charAt_5068e 2 (some .char), Cond.methodLink RJ0 492 yJ0_isLatin1_aae02, Cond.instanceMethod yJ0_isLatin1_aae02, Cond.selects RJ0 yJ0_isLatin1_aae02 yJ0_isLatin1_aae02, Cond.code yJ0_isLatin1_aae02 cJ0_isLatin1_aae02 1 (some .boolean), Cond.methodLink RJ0 495 yJ1_charAt_3b067, Cond.static yJ1_charAt_3b067, Cond.initialized RJ1, Cond.code yJ1_charAt_3b067 cJ1_charAt_3b067 2 (some .char)]
def wsX1_placeOf_r2 : List Cond := [Cond.methodLink RJ1 9 yJ0_checkIndex_df160, Cond.static yJ0_checkIndex_df160, Cond.code yJ0_checkIndex_df160 cJ0_checkIndex_df160 2 none, Cond.fieldLink RJ0 1053 "jdk/internal/util/Preconditions" "SIOOBE_FORMATTER" "Ljava/util/function/BiFunction;", Cond.methodLink RJ0 1059 yJ3_checkIndex_8e157, Cond.static yJ3_checkIndex_8e157, Cond.initialized RJ3, Cond.code yJ3_checkIndex_8e157 cJ3_checkIndex_8e157 3 (some .int), Cond.methodLink RJ0 498 yJ2_charAt_3b067, Cond.static yJ2_charAt_3b067, Cond.initialized RJ2, Cond.code yJ2_charAt_3b067 cJ2_charAt_3b067 2 (some .char), Cond.methodLink RJ2 67 yJ2_checkIndex_2214a, Cond.static yJ2_checkIndex_2214a, Cond.code yJ2_checkIndex_2214a cJ2_checkIndex_2214a 2 none, Cond.methodLink RJ2 48 yJ2_length_9d52b, Cond.static yJ2_length_9d52b, Cond.code yJ2_length_9d52b cJ2_length_9d52b 1 (some .int), Cond.methodLink RJ2 414 yJ0_checkIndex_df160, Cond.methodLink RJ2 71 yJ2_getChar_3b067, Cond.static yJ2_getChar_3b067, Cond.code yJ2_getChar_3b067 cJ2_getChar_3b067 2 (some .char), Cond.fieldLink RJ2 44 "java/lang/StringUTF16" "$assertionsDisabled" "Z", Cond.fieldLink RJ2 59 "java/lang/StringUTF16" "HI_BYTE_SHIFT" "I"]
def wsX1_placeOf_r3 : List Cond := [Cond.fieldLink RJ2 63 "java/lang/StringUTF16" "LO_BYTE_SHIFT" "I"]
def wsX1_placeOf : List Cond := .code yX1_placeOf cX1_placeOf 6 (some .int) :: ((wsX1_placeOf_r1 ++ (wsX1_placeOf_r2 ++ wsX1_placeOf_r3)))
def wsX1_nameAt_r1 : List Cond := [Cond.methodLink RX1 70 yJ0_length_8abf5, Cond.instanceMethod yJ0_length_8abf5, Cond.selects RJ0 yJ0_length_8abf5 yJ0_length_8abf5, Cond.initialized RJ0, Cond.code yJ0_length_8abf5 cJ0_length_8abf5 1 (some .int), Cond.fieldLink RJ0 9 "java/lang/String" "value" "[B", Cond.methodLink RJ0 335 yJ0_coder_7d493, Cond.instanceMethod yJ0_coder_7d493, Cond.selects RJ0 yJ0_coder_7d493 yJ0_coder_7d493, Cond.code yJ0_coder_7d493 cJ0_coder_7d493 1 (some .byte), Cond.fieldLink RJ0 38 "java/lang/String" "COMPACT_STRINGS" "Z", Cond.fieldLink RJ0 15 "java/lang/String" "coder" "B", Cond.methodLink RX1 76 yJ0_charAt_5068e, Cond.instanceMethod yJ0_charAt_5068e, Cond.selects RJ0 yJ0_charAt_5068e yJ0_charAt_5068e, Cond.code yJ0_charAt_5068e cJ0_charAt_5068e 2 (some .char), Cond.methodLink RJ0 492 yJ0_isLatin1_aae02, Cond.instanceMethod yJ0_isLatin1_aae02, Cond.selects RJ0 yJ0_isLatin1_aae02 yJ0_isLatin1_aae02, Cond.code yJ0_isLatin1_aae02 cJ0_isLatin1_aae02 1 (some .boolean), Cond.methodLink RJ0 495 yJ1_charAt_3b067, Cond.static yJ1_charAt_3b067, Cond.initialized RJ1, Cond.code yJ1_charAt_3b067 cJ1_charAt_3b067 2 (some .char)]
def wsX1_nameAt_r2 : List Cond := [Cond.methodLink RJ1 9 yJ0_checkIndex_df160, Cond.static yJ0_checkIndex_df160, Cond.code yJ0_checkIndex_df160 cJ0_checkIndex_df160 2 none, Cond.fieldLink RJ0 1053 "jdk/internal/util/Preconditions" "SIOOBE_FORMATTER" "Ljava/util/function/BiFunction;", Cond.methodLink RJ0 1059 yJ3_checkIndex_8e157, Cond.static yJ3_checkIndex_8e157, Cond.initialized RJ3, Cond.code yJ3_checkIndex_8e157 cJ3_checkIndex_8e157 3 (some .int), Cond.methodLink RJ0 498 yJ2_charAt_3b067, Cond.static yJ2_charAt_3b067, Cond.initialized RJ2, Cond.code yJ2_charAt_3b067 cJ2_charAt_3b067 2 (some .char), Cond.methodLink RJ2 67 yJ2_checkIndex_2214a, Cond.static yJ2_checkIndex_2214a, Cond.code yJ2_checkIndex_2214a cJ2_checkIndex_2214a 2 none, Cond.methodLink RJ2 48 yJ2_length_9d52b, Cond.static yJ2_length_9d52b, Cond.code yJ2_length_9d52b cJ2_length_9d52b 1 (some .int), Cond.methodLink RJ2 414 yJ0_checkIndex_df160, Cond.methodLink RJ2 71 yJ2_getChar_3b067, Cond.static yJ2_getChar_3b067, Cond.code yJ2_getChar_3b067 cJ2_getChar_3b067 2 (some .char), Cond.fieldLink RJ2 44 "java/lang/StringUTF16" "$assertionsDisabled" "Z", Cond.fieldLink RJ2 59 "java/lang/StringUTF16" "HI_BYTE_SHIFT" "I"]
def wsX1_nameAt_r3 : List Cond := [Cond.fieldLink RJ2 63 "java/lang/StringUTF16" "LO_BYTE_SHIFT" "I"]
def wsX1_nameAt : List Cond := .code yX1_nameAt cX1_nameAt 6 (some .int) :: ((wsX1_nameAt_r1 ++ (wsX1_nameAt_r2 ++ wsX1_nameAt_r3)))
def wsX1_meantBy_r1 : List Cond := [Cond.methodLink RX1 63 yX1_placeOf, Cond.static yX1_placeOf, Cond.initialized RX1, Cond.code yX1_placeOf cX1_placeOf 6 (some .int), Cond.methodLink RX1 70 yJ0_length_8abf5, Cond.instanceMethod yJ0_length_8abf5, Cond.selects RJ0 yJ0_length_8abf5 yJ0_length_8abf5, Cond.initialized RJ0, Cond.code yJ0_length_8abf5 cJ0_length_8abf5 1 (some .int), Cond.fieldLink RJ0 9 "java/lang/String" "value" "[B", Cond.methodLink RJ0 335 yJ0_coder_7d493, Cond.instanceMethod yJ0_coder_7d493, Cond.selects RJ0 yJ0_coder_7d493 yJ0_coder_7d493, Cond.code yJ0_coder_7d493 cJ0_coder_7d493 1 (some .byte), Cond.fieldLink RJ0 38 "java/lang/String" "COMPACT_STRINGS" "Z", Cond.fieldLink RJ0 15 "java/lang/String" "coder" "B", Cond.methodLink RX1 76 yJ0_charAt_5068e, Cond.instanceMethod yJ0_charAt_5068e, Cond.selects RJ0 yJ0_charAt_5068e yJ0_charAt_5068e, Cond.code yJ0_charAt_5068e cJ0_charAt_5068e 2 (some .char), Cond.methodLink RJ0 492 yJ0_isLatin1_aae02, Cond.instanceMethod yJ0_isLatin1_aae02, Cond.selects RJ0 yJ0_isLatin1_aae02 yJ0_isLatin1_aae02, Cond.code yJ0_isLatin1_aae02 cJ0_isLatin1_aae02 1 (some .boolean)]
def wsX1_meantBy_r2 : List Cond := [Cond.methodLink RJ0 495 yJ1_charAt_3b067, Cond.static yJ1_charAt_3b067, Cond.initialized RJ1, Cond.code yJ1_charAt_3b067 cJ1_charAt_3b067 2 (some .char), Cond.methodLink RJ1 9 yJ0_checkIndex_df160, Cond.static yJ0_checkIndex_df160, Cond.code yJ0_checkIndex_df160 cJ0_checkIndex_df160 2 none, Cond.fieldLink RJ0 1053 "jdk/internal/util/Preconditions" "SIOOBE_FORMATTER" "Ljava/util/function/BiFunction;", Cond.methodLink RJ0 1059 yJ3_checkIndex_8e157, Cond.static yJ3_checkIndex_8e157, Cond.initialized RJ3, Cond.code yJ3_checkIndex_8e157 cJ3_checkIndex_8e157 3 (some .int), Cond.methodLink RJ0 498 yJ2_charAt_3b067, Cond.static yJ2_charAt_3b067, Cond.initialized RJ2, Cond.code yJ2_charAt_3b067 cJ2_charAt_3b067 2 (some .char), Cond.methodLink RJ2 67 yJ2_checkIndex_2214a, Cond.static yJ2_checkIndex_2214a, Cond.code yJ2_checkIndex_2214a cJ2_checkIndex_2214a 2 none, Cond.methodLink RJ2 48 yJ2_length_9d52b, Cond.static yJ2_length_9d52b, Cond.code yJ2_length_9d52b cJ2_length_9d52b 1 (some .int), Cond.methodLink RJ2 414 yJ0_checkIndex_df160, Cond.methodLink RJ2 71 yJ2_getChar_3b067]
def wsX1_meantBy_r3 : List Cond := [Cond.static yJ2_getChar_3b067, Cond.code yJ2_getChar_3b067 cJ2_getChar_3b067 2 (some .char), Cond.fieldLink RJ2 44 "java/lang/StringUTF16" "$assertionsDisabled" "Z", Cond.fieldLink RJ2 59 "java/lang/StringUTF16" "HI_BYTE_SHIFT" "I", Cond.fieldLink RJ2 63 "java/lang/StringUTF16" "LO_BYTE_SHIFT" "I", Cond.methodLink RX1 67 yX1_nameAt, Cond.static yX1_nameAt, Cond.code yX1_nameAt cX1_nameAt 6 (some .int)]
def wsX1_meantBy : List Cond := .code yX1_meantBy cX1_meantBy 4 (some .int) :: ((wsX1_meantBy_r1 ++ (wsX1_meantBy_r2 ++ wsX1_meantBy_r3)))
def wsX1_opInRow_r1 : List Cond := [Cond.methodLink RX1 63 yX1_placeOf, Cond.static yX1_placeOf, Cond.initialized RX1, Cond.code yX1_placeOf cX1_placeOf 6 (some .int), Cond.methodLink RX1 70 yJ0_length_8abf5, Cond.instanceMethod yJ0_length_8abf5, Cond.selects RJ0 yJ0_length_8abf5 yJ0_length_8abf5, Cond.initialized RJ0, Cond.code yJ0_length_8abf5 cJ0_length_8abf5 1 (some .int), Cond.fieldLink RJ0 9 "java/lang/String" "value" "[B", Cond.methodLink RJ0 335 yJ0_coder_7d493, Cond.instanceMethod yJ0_coder_7d493, Cond.selects RJ0 yJ0_coder_7d493 yJ0_coder_7d493, Cond.code yJ0_coder_7d493 cJ0_coder_7d493 1 (some .byte), Cond.fieldLink RJ0 38 "java/lang/String" "COMPACT_STRINGS" "Z", Cond.fieldLink RJ0 15 "java/lang/String" "coder" "B", Cond.methodLink RX1 76 yJ0_charAt_5068e, Cond.instanceMethod yJ0_charAt_5068e, Cond.selects RJ0 yJ0_charAt_5068e yJ0_charAt_5068e, Cond.code yJ0_charAt_5068e cJ0_charAt_5068e 2 (some .char), Cond.methodLink RJ0 492 yJ0_isLatin1_aae02, Cond.instanceMethod yJ0_isLatin1_aae02, Cond.selects RJ0 yJ0_isLatin1_aae02 yJ0_isLatin1_aae02, Cond.code yJ0_isLatin1_aae02 cJ0_isLatin1_aae02 1 (some .boolean)]
def wsX1_opInRow_r2 : List Cond := [Cond.methodLink RJ0 495 yJ1_charAt_3b067, Cond.static yJ1_charAt_3b067, Cond.initialized RJ1, Cond.code yJ1_charAt_3b067 cJ1_charAt_3b067 2 (some .char), Cond.methodLink RJ1 9 yJ0_checkIndex_df160, Cond.static yJ0_checkIndex_df160, Cond.code yJ0_checkIndex_df160 cJ0_checkIndex_df160 2 none, Cond.fieldLink RJ0 1053 "jdk/internal/util/Preconditions" "SIOOBE_FORMATTER" "Ljava/util/function/BiFunction;", Cond.methodLink RJ0 1059 yJ3_checkIndex_8e157, Cond.static yJ3_checkIndex_8e157, Cond.initialized RJ3, Cond.code yJ3_checkIndex_8e157 cJ3_checkIndex_8e157 3 (some .int), Cond.methodLink RJ0 498 yJ2_charAt_3b067, Cond.static yJ2_charAt_3b067, Cond.initialized RJ2, Cond.code yJ2_charAt_3b067 cJ2_charAt_3b067 2 (some .char), Cond.methodLink RJ2 67 yJ2_checkIndex_2214a, Cond.static yJ2_checkIndex_2214a, Cond.code yJ2_checkIndex_2214a cJ2_checkIndex_2214a 2 none, Cond.methodLink RJ2 48 yJ2_length_9d52b, Cond.static yJ2_length_9d52b, Cond.code yJ2_length_9d52b cJ2_length_9d52b 1 (some .int), Cond.methodLink RJ2 414 yJ0_checkIndex_df160, Cond.methodLink RJ2 71 yJ2_getChar_3b067]
def wsX1_opInRow_r3 : List Cond := [Cond.static yJ2_getChar_3b067, Cond.code yJ2_getChar_3b067 cJ2_getChar_3b067 2 (some .char), Cond.fieldLink RJ2 44 "java/lang/StringUTF16" "$assertionsDisabled" "Z", Cond.fieldLink RJ2 59 "java/lang/StringUTF16" "HI_BYTE_SHIFT" "I", Cond.fieldLink RJ2 63 "java/lang/StringUTF16" "LO_BYTE_SHIFT" "I"]
def wsX1_opInRow : List Cond := .code yX1_opInRow cX1_opInRow 5 (some .int) :: ((wsX1_opInRow_r1 ++ (wsX1_opInRow_r2 ++ wsX1_opInRow_r3)))
def wsX1_singleNamed_r1 : List Cond := [Cond.methodLink RX1 23 yX1_meantBy, Cond.static yX1_meantBy, Cond.initialized RX1, Cond.code yX1_meantBy cX1_meantBy 4 (some .int), Cond.methodLink RX1 63 yX1_placeOf, Cond.static yX1_placeOf, Cond.code yX1_placeOf cX1_placeOf 6 (some .int), Cond.methodLink RX1 70 yJ0_length_8abf5, Cond.instanceMethod yJ0_length_8abf5, Cond.selects RJ0 yJ0_length_8abf5 yJ0_length_8abf5, Cond.initialized RJ0, Cond.code yJ0_length_8abf5 cJ0_length_8abf5 1 (some .int), Cond.fieldLink RJ0 9 "java/lang/String" "value" "[B", Cond.methodLink RJ0 335 yJ0_coder_7d493, Cond.instanceMethod yJ0_coder_7d493, Cond.selects RJ0 yJ0_coder_7d493 yJ0_coder_7d493, Cond.code yJ0_coder_7d493 cJ0_coder_7d493 1 (some .byte), Cond.fieldLink RJ0 38 "java/lang/String" "COMPACT_STRINGS" "Z", Cond.fieldLink RJ0 15 "java/lang/String" "coder" "B", Cond.methodLink RX1 76 yJ0_charAt_5068e, Cond.instanceMethod yJ0_charAt_5068e, Cond.selects RJ0 yJ0_charAt_5068e yJ0_charAt_5068e, Cond.code yJ0_charAt_5068e cJ0_charAt_5068e 2 (some .char), Cond.methodLink RJ0 492 yJ0_isLatin1_aae02]
def wsX1_singleNamed_r2 : List Cond := [Cond.instanceMethod yJ0_isLatin1_aae02, Cond.selects RJ0 yJ0_isLatin1_aae02 yJ0_isLatin1_aae02, Cond.code yJ0_isLatin1_aae02 cJ0_isLatin1_aae02 1 (some .boolean), Cond.methodLink RJ0 495 yJ1_charAt_3b067, Cond.static yJ1_charAt_3b067, Cond.initialized RJ1, Cond.code yJ1_charAt_3b067 cJ1_charAt_3b067 2 (some .char), Cond.methodLink RJ1 9 yJ0_checkIndex_df160, Cond.static yJ0_checkIndex_df160, Cond.code yJ0_checkIndex_df160 cJ0_checkIndex_df160 2 none, Cond.fieldLink RJ0 1053 "jdk/internal/util/Preconditions" "SIOOBE_FORMATTER" "Ljava/util/function/BiFunction;", Cond.methodLink RJ0 1059 yJ3_checkIndex_8e157, Cond.static yJ3_checkIndex_8e157, Cond.initialized RJ3, Cond.code yJ3_checkIndex_8e157 cJ3_checkIndex_8e157 3 (some .int), Cond.methodLink RJ0 498 yJ2_charAt_3b067, Cond.static yJ2_charAt_3b067, Cond.initialized RJ2, Cond.code yJ2_charAt_3b067 cJ2_charAt_3b067 2 (some .char), Cond.methodLink RJ2 67 yJ2_checkIndex_2214a, Cond.static yJ2_checkIndex_2214a, Cond.code yJ2_checkIndex_2214a cJ2_checkIndex_2214a 2 none, Cond.methodLink RJ2 48 yJ2_length_9d52b, Cond.static yJ2_length_9d52b]
def wsX1_singleNamed_r3 : List Cond := [Cond.code yJ2_length_9d52b cJ2_length_9d52b 1 (some .int), Cond.methodLink RJ2 414 yJ0_checkIndex_df160, Cond.methodLink RJ2 71 yJ2_getChar_3b067, Cond.static yJ2_getChar_3b067, Cond.code yJ2_getChar_3b067 cJ2_getChar_3b067 2 (some .char), Cond.fieldLink RJ2 44 "java/lang/StringUTF16" "$assertionsDisabled" "Z", Cond.fieldLink RJ2 59 "java/lang/StringUTF16" "HI_BYTE_SHIFT" "I", Cond.fieldLink RJ2 63 "java/lang/StringUTF16" "LO_BYTE_SHIFT" "I", Cond.methodLink RX1 67 yX1_nameAt, Cond.static yX1_nameAt, Cond.code yX1_nameAt cX1_nameAt 6 (some .int), Cond.methodLink RX1 29 yX1_opInRow, Cond.static yX1_opInRow, Cond.code yX1_opInRow cX1_opInRow 5 (some .int)]
def wsX1_singleNamed : List Cond := .code yX1_singleNamed cX1_singleNamed 3 (some .int) :: ((wsX1_singleNamed_r1 ++ (wsX1_singleNamed_r2 ++ wsX1_singleNamed_r3)))
def wsX1_evenNamed_r1 : List Cond := [Cond.methodLink RX1 23 yX1_meantBy, Cond.static yX1_meantBy, Cond.initialized RX1, Cond.code yX1_meantBy cX1_meantBy 4 (some .int), Cond.methodLink RX1 63 yX1_placeOf, Cond.static yX1_placeOf, Cond.code yX1_placeOf cX1_placeOf 6 (some .int), Cond.methodLink RX1 70 yJ0_length_8abf5, Cond.instanceMethod yJ0_length_8abf5, Cond.selects RJ0 yJ0_length_8abf5 yJ0_length_8abf5, Cond.initialized RJ0, Cond.code yJ0_length_8abf5 cJ0_length_8abf5 1 (some .int), Cond.fieldLink RJ0 9 "java/lang/String" "value" "[B", Cond.methodLink RJ0 335 yJ0_coder_7d493, Cond.instanceMethod yJ0_coder_7d493, Cond.selects RJ0 yJ0_coder_7d493 yJ0_coder_7d493, Cond.code yJ0_coder_7d493 cJ0_coder_7d493 1 (some .byte), Cond.fieldLink RJ0 38 "java/lang/String" "COMPACT_STRINGS" "Z", Cond.fieldLink RJ0 15 "java/lang/String" "coder" "B", Cond.methodLink RX1 76 yJ0_charAt_5068e, Cond.instanceMethod yJ0_charAt_5068e, Cond.selects RJ0 yJ0_charAt_5068e yJ0_charAt_5068e, Cond.code yJ0_charAt_5068e cJ0_charAt_5068e 2 (some .char), Cond.methodLink RJ0 492 yJ0_isLatin1_aae02]
def wsX1_evenNamed_r2 : List Cond := [Cond.instanceMethod yJ0_isLatin1_aae02, Cond.selects RJ0 yJ0_isLatin1_aae02 yJ0_isLatin1_aae02, Cond.code yJ0_isLatin1_aae02 cJ0_isLatin1_aae02 1 (some .boolean), Cond.methodLink RJ0 495 yJ1_charAt_3b067, Cond.static yJ1_charAt_3b067, Cond.initialized RJ1, Cond.code yJ1_charAt_3b067 cJ1_charAt_3b067 2 (some .char), Cond.methodLink RJ1 9 yJ0_checkIndex_df160, Cond.static yJ0_checkIndex_df160, Cond.code yJ0_checkIndex_df160 cJ0_checkIndex_df160 2 none, Cond.fieldLink RJ0 1053 "jdk/internal/util/Preconditions" "SIOOBE_FORMATTER" "Ljava/util/function/BiFunction;", Cond.methodLink RJ0 1059 yJ3_checkIndex_8e157, Cond.static yJ3_checkIndex_8e157, Cond.initialized RJ3, Cond.code yJ3_checkIndex_8e157 cJ3_checkIndex_8e157 3 (some .int), Cond.methodLink RJ0 498 yJ2_charAt_3b067, Cond.static yJ2_charAt_3b067, Cond.initialized RJ2, Cond.code yJ2_charAt_3b067 cJ2_charAt_3b067 2 (some .char), Cond.methodLink RJ2 67 yJ2_checkIndex_2214a, Cond.static yJ2_checkIndex_2214a, Cond.code yJ2_checkIndex_2214a cJ2_checkIndex_2214a 2 none, Cond.methodLink RJ2 48 yJ2_length_9d52b, Cond.static yJ2_length_9d52b]
def wsX1_evenNamed_r3 : List Cond := [Cond.code yJ2_length_9d52b cJ2_length_9d52b 1 (some .int), Cond.methodLink RJ2 414 yJ0_checkIndex_df160, Cond.methodLink RJ2 71 yJ2_getChar_3b067, Cond.static yJ2_getChar_3b067, Cond.code yJ2_getChar_3b067 cJ2_getChar_3b067 2 (some .char), Cond.fieldLink RJ2 44 "java/lang/StringUTF16" "$assertionsDisabled" "Z", Cond.fieldLink RJ2 59 "java/lang/StringUTF16" "HI_BYTE_SHIFT" "I", Cond.fieldLink RJ2 63 "java/lang/StringUTF16" "LO_BYTE_SHIFT" "I", Cond.methodLink RX1 67 yX1_nameAt, Cond.static yX1_nameAt, Cond.code yX1_nameAt cX1_nameAt 6 (some .int), Cond.methodLink RX1 29 yX1_opInRow, Cond.static yX1_opInRow, Cond.code yX1_opInRow cX1_opInRow 5 (some .int)]
def wsX1_evenNamed : List Cond := .code yX1_evenNamed cX1_evenNamed 3 (some .int) :: ((wsX1_evenNamed_r1 ++ (wsX1_evenNamed_r2 ++ wsX1_evenNamed_r3)))
def wsX1_oddNamed_r1 : List Cond := [Cond.methodLink RX1 13 yX1_evenNamed, Cond.static yX1_evenNamed, Cond.initialized RX1, Cond.code yX1_evenNamed cX1_evenNamed 3 (some .int), Cond.methodLink RX1 23 yX1_meantBy, Cond.static yX1_meantBy, Cond.code yX1_meantBy cX1_meantBy 4 (some .int), Cond.methodLink RX1 63 yX1_placeOf, Cond.static yX1_placeOf, Cond.code yX1_placeOf cX1_placeOf 6 (some .int), Cond.methodLink RX1 70 yJ0_length_8abf5, Cond.instanceMethod yJ0_length_8abf5, Cond.selects RJ0 yJ0_length_8abf5 yJ0_length_8abf5, Cond.initialized RJ0, Cond.code yJ0_length_8abf5 cJ0_length_8abf5 1 (some .int), Cond.fieldLink RJ0 9 "java/lang/String" "value" "[B", Cond.methodLink RJ0 335 yJ0_coder_7d493, Cond.instanceMethod yJ0_coder_7d493, Cond.selects RJ0 yJ0_coder_7d493 yJ0_coder_7d493, Cond.code yJ0_coder_7d493 cJ0_coder_7d493 1 (some .byte), Cond.fieldLink RJ0 38 "java/lang/String" "COMPACT_STRINGS" "Z", Cond.fieldLink RJ0 15 "java/lang/String" "coder" "B", Cond.methodLink RX1 76 yJ0_charAt_5068e, Cond.instanceMethod yJ0_charAt_5068e]
def wsX1_oddNamed_r2 : List Cond := [Cond.selects RJ0 yJ0_charAt_5068e yJ0_charAt_5068e, Cond.code yJ0_charAt_5068e cJ0_charAt_5068e 2 (some .char), Cond.methodLink RJ0 492 yJ0_isLatin1_aae02, Cond.instanceMethod yJ0_isLatin1_aae02, Cond.selects RJ0 yJ0_isLatin1_aae02 yJ0_isLatin1_aae02, Cond.code yJ0_isLatin1_aae02 cJ0_isLatin1_aae02 1 (some .boolean), Cond.methodLink RJ0 495 yJ1_charAt_3b067, Cond.static yJ1_charAt_3b067, Cond.initialized RJ1, Cond.code yJ1_charAt_3b067 cJ1_charAt_3b067 2 (some .char), Cond.methodLink RJ1 9 yJ0_checkIndex_df160, Cond.static yJ0_checkIndex_df160, Cond.code yJ0_checkIndex_df160 cJ0_checkIndex_df160 2 none, Cond.fieldLink RJ0 1053 "jdk/internal/util/Preconditions" "SIOOBE_FORMATTER" "Ljava/util/function/BiFunction;", Cond.methodLink RJ0 1059 yJ3_checkIndex_8e157, Cond.static yJ3_checkIndex_8e157, Cond.initialized RJ3, Cond.code yJ3_checkIndex_8e157 cJ3_checkIndex_8e157 3 (some .int), Cond.methodLink RJ0 498 yJ2_charAt_3b067, Cond.static yJ2_charAt_3b067, Cond.initialized RJ2, Cond.code yJ2_charAt_3b067 cJ2_charAt_3b067 2 (some .char), Cond.methodLink RJ2 67 yJ2_checkIndex_2214a, Cond.static yJ2_checkIndex_2214a]
def wsX1_oddNamed_r3 : List Cond := [Cond.code yJ2_checkIndex_2214a cJ2_checkIndex_2214a 2 none, Cond.methodLink RJ2 48 yJ2_length_9d52b, Cond.static yJ2_length_9d52b, Cond.code yJ2_length_9d52b cJ2_length_9d52b 1 (some .int), Cond.methodLink RJ2 414 yJ0_checkIndex_df160, Cond.methodLink RJ2 71 yJ2_getChar_3b067, Cond.static yJ2_getChar_3b067, Cond.code yJ2_getChar_3b067 cJ2_getChar_3b067 2 (some .char), Cond.fieldLink RJ2 44 "java/lang/StringUTF16" "$assertionsDisabled" "Z", Cond.fieldLink RJ2 59 "java/lang/StringUTF16" "HI_BYTE_SHIFT" "I", Cond.fieldLink RJ2 63 "java/lang/StringUTF16" "LO_BYTE_SHIFT" "I", Cond.methodLink RX1 67 yX1_nameAt, Cond.static yX1_nameAt, Cond.code yX1_nameAt cX1_nameAt 6 (some .int), Cond.methodLink RX1 29 yX1_opInRow, Cond.static yX1_opInRow, Cond.code yX1_opInRow cX1_opInRow 5 (some .int)]
def wsX1_oddNamed : List Cond := .code yX1_oddNamed cX1_oddNamed 4 (some .int) :: ((wsX1_oddNamed_r1 ++ (wsX1_oddNamed_r2 ++ wsX1_oddNamed_r3)))
def wsX1_opNamed_r1 : List Cond := [Cond.methodLink RX1 7 yX1_singleNamed, Cond.static yX1_singleNamed, Cond.initialized RX1, Cond.code yX1_singleNamed cX1_singleNamed 3 (some .int), Cond.methodLink RX1 23 yX1_meantBy, Cond.static yX1_meantBy, Cond.code yX1_meantBy cX1_meantBy 4 (some .int), Cond.methodLink RX1 63 yX1_placeOf, Cond.static yX1_placeOf, Cond.code yX1_placeOf cX1_placeOf 6 (some .int), Cond.methodLink RX1 70 yJ0_length_8abf5, Cond.instanceMethod yJ0_length_8abf5, Cond.selects RJ0 yJ0_length_8abf5 yJ0_length_8abf5, Cond.initialized RJ0, Cond.code yJ0_length_8abf5 cJ0_length_8abf5 1 (some .int), Cond.fieldLink RJ0 9 "java/lang/String" "value" "[B", Cond.methodLink RJ0 335 yJ0_coder_7d493, Cond.instanceMethod yJ0_coder_7d493, Cond.selects RJ0 yJ0_coder_7d493 yJ0_coder_7d493, Cond.code yJ0_coder_7d493 cJ0_coder_7d493 1 (some .byte), Cond.fieldLink RJ0 38 "java/lang/String" "COMPACT_STRINGS" "Z", Cond.fieldLink RJ0 15 "java/lang/String" "coder" "B", Cond.methodLink RX1 76 yJ0_charAt_5068e, Cond.instanceMethod yJ0_charAt_5068e]
def wsX1_opNamed_r2 : List Cond := [Cond.selects RJ0 yJ0_charAt_5068e yJ0_charAt_5068e, Cond.code yJ0_charAt_5068e cJ0_charAt_5068e 2 (some .char), Cond.methodLink RJ0 492 yJ0_isLatin1_aae02, Cond.instanceMethod yJ0_isLatin1_aae02, Cond.selects RJ0 yJ0_isLatin1_aae02 yJ0_isLatin1_aae02, Cond.code yJ0_isLatin1_aae02 cJ0_isLatin1_aae02 1 (some .boolean), Cond.methodLink RJ0 495 yJ1_charAt_3b067, Cond.static yJ1_charAt_3b067, Cond.initialized RJ1, Cond.code yJ1_charAt_3b067 cJ1_charAt_3b067 2 (some .char), Cond.methodLink RJ1 9 yJ0_checkIndex_df160, Cond.static yJ0_checkIndex_df160, Cond.code yJ0_checkIndex_df160 cJ0_checkIndex_df160 2 none, Cond.fieldLink RJ0 1053 "jdk/internal/util/Preconditions" "SIOOBE_FORMATTER" "Ljava/util/function/BiFunction;", Cond.methodLink RJ0 1059 yJ3_checkIndex_8e157, Cond.static yJ3_checkIndex_8e157, Cond.initialized RJ3, Cond.code yJ3_checkIndex_8e157 cJ3_checkIndex_8e157 3 (some .int), Cond.methodLink RJ0 498 yJ2_charAt_3b067, Cond.static yJ2_charAt_3b067, Cond.initialized RJ2, Cond.code yJ2_charAt_3b067 cJ2_charAt_3b067 2 (some .char), Cond.methodLink RJ2 67 yJ2_checkIndex_2214a, Cond.static yJ2_checkIndex_2214a]
def wsX1_opNamed_r3 : List Cond := [Cond.code yJ2_checkIndex_2214a cJ2_checkIndex_2214a 2 none, Cond.methodLink RJ2 48 yJ2_length_9d52b, Cond.static yJ2_length_9d52b, Cond.code yJ2_length_9d52b cJ2_length_9d52b 1 (some .int), Cond.methodLink RJ2 414 yJ0_checkIndex_df160, Cond.methodLink RJ2 71 yJ2_getChar_3b067, Cond.static yJ2_getChar_3b067, Cond.code yJ2_getChar_3b067 cJ2_getChar_3b067 2 (some .char), Cond.fieldLink RJ2 44 "java/lang/StringUTF16" "$assertionsDisabled" "Z", Cond.fieldLink RJ2 59 "java/lang/StringUTF16" "HI_BYTE_SHIFT" "I", Cond.fieldLink RJ2 63 "java/lang/StringUTF16" "LO_BYTE_SHIFT" "I", Cond.methodLink RX1 67 yX1_nameAt, Cond.static yX1_nameAt, Cond.code yX1_nameAt cX1_nameAt 6 (some .int), Cond.methodLink RX1 29 yX1_opInRow, Cond.static yX1_opInRow, Cond.code yX1_opInRow cX1_opInRow 5 (some .int), Cond.methodLink RX1 13 yX1_evenNamed, Cond.static yX1_evenNamed, Cond.code yX1_evenNamed cX1_evenNamed 3 (some .int), Cond.methodLink RX1 16 yX1_oddNamed, Cond.static yX1_oddNamed, Cond.code yX1_oddNamed cX1_oddNamed 4 (some .int)]
def wsX1_opNamed : List Cond := .code yX1_opNamed cX1_opNamed 2 (some .int) :: ((wsX1_opNamed_r1 ++ (wsX1_opNamed_r2 ++ wsX1_opNamed_r3)))
def wsX2_isAbove : List Cond := .code yX2_isAbove cX2_isAbove 4 (some .boolean) :: ([.constantLong RX2 9 (-9223372036854775808)])
def wsX2_highOfProduct : List Cond := .code yX2_highOfProduct cX2_highOfProduct 16 (some .long) :: ([.constantLong RX2 11 (4294967295)])
def wsX2_highOfSignedProduct : List Cond := .code yX2_highOfSignedProduct cX2_highOfSignedProduct 4 (some .long) :: ([.methodLink RX2 13 yX2_highOfProduct, .static yX2_highOfProduct, .initialized RX2, .code yX2_highOfProduct cX2_highOfProduct 16 (some .long), .constantLong RX2 11 (4294967295)])
def wsX2_isWholeShift : List Cond := .code yX2_isWholeShift cX2_isWholeShift 2 (some .boolean) :: ([.constantLong RX2 19 (64)])
def wsX2_shiftLeft : List Cond := .code yX2_shiftLeft cX2_shiftLeft 4 (some .long) :: ([.methodLink RX2 21 yX2_isWholeShift, .static yX2_isWholeShift, .initialized RX2, .code yX2_isWholeShift cX2_isWholeShift 2 (some .boolean), .constantLong RX2 19 (64)])
def wsX2_shiftRight : List Cond := .code yX2_shiftRight cX2_shiftRight 4 (some .long) :: ([.methodLink RX2 21 yX2_isWholeShift, .static yX2_isWholeShift, .initialized RX2, .code yX2_isWholeShift cX2_isWholeShift 2 (some .boolean), .constantLong RX2 19 (64)])
def wsX2_shiftRightUnsigned : List Cond := .code yX2_shiftRightUnsigned cX2_shiftRightUnsigned 4 (some .long) :: ([.methodLink RX2 21 yX2_isWholeShift, .static yX2_isWholeShift, .initialized RX2, .code yX2_isWholeShift cX2_isWholeShift 2 (some .boolean), .constantLong RX2 19 (64)])
def wsX2_signed : List Cond := .code yX2_signed cX2_signed 4 (some .long) :: ([])
def wsX2_bitwise : List Cond := .code yX2_bitwise cX2_bitwise 5 (some .long) :: ([.constantLong RX2 25 (-1)])
def wsX2_differences : List Cond := .code yX2_differences cX2_differences 14 (some .long) :: ([.constantLong RX2 25 (-1), .methodLink RX2 27 yX2_isAbove, .static yX2_isAbove, .initialized RX2, .code yX2_isAbove cX2_isAbove 4 (some .boolean), .constantLong RX2 9 (-9223372036854775808)])
def wsX2_matrixProduct : List Cond := .code yX2_matrixProduct cX2_matrixProduct 12 (some .long) :: ([.constantLong RX2 31 (72340172838076673), .constantLong RX2 33 (255)])
def wsX3_init : List Cond := .code yX3_init cX3_init 1 none :: ([.methodLink RX3 1 objectInit, .instanceMethod objectInit, .code objectInit ⟨#[0xb1]⟩ 1 none, .arrayClass .long, .fieldLink RX3 9 "MixBench" "registers" "[J", .fieldLink RX3 13 "MixBench" "specials" "[J", .fieldLink RX3 16 "MixBench" "tallies" "[J", .arrayClass .byte, .fieldLink RX3 19 "MixBench" "outputBytes" "[B", .classLink RX3 23 RX0, .instantiable RX0 1, .initialized RX0, .fieldLink RX3 26 "MixBench" "memory" "LMixBench$Memory;", .instanceMethod yX0_init, .code yX0_init cX0_init 1 none, .methodLink RX0 3 objectInit, .fieldLink RX0 9 "MixBench$Memory" "octas" "[J"] ++ wsX30 ++ wsX00)
def wsX3_set : List Cond := .code yX3_set cX3_set 6 (some .long) :: ([.classLink RX3 30 "java/util/NoSuchElementException", .initialized "java/util/NoSuchElementException", .fieldLink RX3 9 "MixBench" "registers" "[J"] ++ wsX30 ++ (vx_atS RX3 34 "java/util/NoSuchElementException" ["java/lang/RuntimeException", "java/lang/Exception"]).filter goodWord)
def wsX3_get : List Cond := .code yX3_get cX3_get 2 (some .long) :: ([.classLink RX3 30 "java/util/NoSuchElementException", .initialized "java/util/NoSuchElementException", .fieldLink RX3 9 "MixBench" "registers" "[J", .fieldLink RX3 13 "MixBench" "specials" "[J"] ++ wsX30 ++ (vx_atS RX3 34 "java/util/NoSuchElementException" ["java/lang/RuntimeException", "java/lang/Exception"]).filter goodWord)
def wsX3_isBeyond : List Cond := .code yX3_isBeyond cX3_isBeyond 2 (some .boolean) :: ([.constantLong RX3 106 (16384)])
def wsX3_poke_r1 : List Cond := [Cond.classLink RX3 41 "java/lang/IndexOutOfBoundsException", Cond.initialized "java/lang/IndexOutOfBoundsException", Cond.fieldLink RX3 26 "MixBench" "memory" "LMixBench$Memory;", Cond.methodLink RX3 37 yX3_isBeyond, Cond.static yX3_isBeyond, Cond.initialized RX3, Cond.code yX3_isBeyond cX3_isBeyond 2 (some .boolean), Cond.constantLong RX3 106 (16384), Cond.instanceMethod yX0_load, Cond.initialized RX0, Cond.selects RX0 yX0_load yX0_load, Cond.code yX0_load cX0_load 4 (some .long), Cond.fieldLink RX0 9 "MixBench$Memory" "octas" "[J", Cond.methodLink RX0 17 yX0_octaOf, Cond.static yX0_octaOf, Cond.code yX0_octaOf cX0_octaOf 2 (some .int), Cond.methodLink RX0 21 yX0_shiftOf, Cond.static yX0_shiftOf, Cond.code yX0_shiftOf cX0_shiftOf 4 (some .int), Cond.methodLink RX0 25 yX0_maskOf, Cond.static yX0_maskOf, Cond.code yX0_maskOf cX0_maskOf 1 (some .long), Cond.constantLong RX0 15 (-1), Cond.instanceMethod yX0_store]
def wsX3_poke_r2 : List Cond := [Cond.selects RX0 yX0_store yX0_store, Cond.code yX0_store cX0_store 9 none]
def wsX3_poke : List Cond := .code yX3_poke cX3_poke 6 (some .long) :: ((wsX3_poke_r1 ++ wsX3_poke_r2) ++ wsX30 ++ wsX00 ++ (vx_atS RX3 45 "java/lang/IndexOutOfBoundsException" ["java/lang/RuntimeException", "java/lang/Exception"]).filter goodWord)
def wsX3_peek : List Cond := .code yX3_peek cX3_peek 2 (some .long) :: ([.classLink RX3 41 "java/lang/IndexOutOfBoundsException", .initialized "java/lang/IndexOutOfBoundsException", .fieldLink RX3 26 "MixBench" "memory" "LMixBench$Memory;", .methodLink RX3 37 yX3_isBeyond, .static yX3_isBeyond, .initialized RX3, .code yX3_isBeyond cX3_isBeyond 2 (some .boolean), .constantLong RX3 106 (16384), .instanceMethod yX0_load, .initialized RX0, .selects RX0 yX0_load yX0_load, .code yX0_load cX0_load 4 (some .long), .fieldLink RX0 9 "MixBench$Memory" "octas" "[J", .methodLink RX0 17 yX0_octaOf, .static yX0_octaOf, .code yX0_octaOf cX0_octaOf 2 (some .int), .methodLink RX0 21 yX0_shiftOf, .static yX0_shiftOf, .code yX0_shiftOf cX0_shiftOf 4 (some .int), .methodLink RX0 25 yX0_maskOf, .static yX0_maskOf, .code yX0_maskOf cX0_maskOf 1 (some .long), .constantLong RX0 15 (-1)] ++ wsX30 ++ wsX00 ++ (vx_atS RX3 45 "java/lang/IndexOutOfBoundsException" ["java/lang/RuntimeException", "java/lang/Exception"]).filter goodWord)
def wsX3_at : List Cond := .code yX3_at cX3_at 2 (some .int) :: ([.classLink RX3 41 "java/lang/IndexOutOfBoundsException", .initialized "java/lang/IndexOutOfBoundsException", .fieldLink RX3 54 "MixBench" "place" "I", .methodLink RX3 37 yX3_isBeyond, .static yX3_isBeyond, .initialized RX3, .code yX3_isBeyond cX3_isBeyond 2 (some .boolean), .constantLong RX3 106 (16384)] ++ wsX30 ++ (vx_atS RX3 45 "java/lang/IndexOutOfBoundsException" ["java/lang/RuntimeException", "java/lang/Exception"]).filter goodWord)
def wsX3_put_r1 : List Cond := [Cond.classLink RX3 30 "java/util/NoSuchElementException", Cond.initialized "java/util/NoSuchElementException", Cond.classLink RX3 41 "java/lang/IndexOutOfBoundsException", Cond.initialized "java/lang/IndexOutOfBoundsException", Cond.fieldLink RX3 54 "MixBench" "place" "I", Cond.fieldLink RX3 26 "MixBench" "memory" "LMixBench$Memory;", Cond.static yX1_opNamed, Cond.initialized RX1, Cond.code yX1_opNamed cX1_opNamed 2 (some .int), Cond.methodLink RX1 7 yX1_singleNamed, Cond.static yX1_singleNamed, Cond.code yX1_singleNamed cX1_singleNamed 3 (some .int), Cond.methodLink RX1 23 yX1_meantBy, Cond.static yX1_meantBy, Cond.code yX1_meantBy cX1_meantBy 4 (some .int), Cond.methodLink RX1 63 yX1_placeOf, Cond.static yX1_placeOf, Cond.code yX1_placeOf cX1_placeOf 6 (some .int), Cond.methodLink RX1 70 yJ0_length_8abf5, Cond.instanceMethod yJ0_length_8abf5, Cond.selects RJ0 yJ0_length_8abf5 yJ0_length_8abf5, Cond.initialized RJ0, Cond.code yJ0_length_8abf5 cJ0_length_8abf5 1 (some .int), Cond.fieldLink RJ0 9 "java/lang/String" "value" "[B"]
def wsX3_put_r2 : List Cond := [Cond.methodLink RJ0 335 yJ0_coder_7d493, Cond.instanceMethod yJ0_coder_7d493, Cond.selects RJ0 yJ0_coder_7d493 yJ0_coder_7d493, Cond.code yJ0_coder_7d493 cJ0_coder_7d493 1 (some .byte), Cond.fieldLink RJ0 38 "java/lang/String" "COMPACT_STRINGS" "Z", Cond.fieldLink RJ0 15 "java/lang/String" "coder" "B", Cond.methodLink RX1 76 yJ0_charAt_5068e, Cond.instanceMethod yJ0_charAt_5068e, Cond.selects RJ0 yJ0_charAt_5068e yJ0_charAt_5068e, Cond.code yJ0_charAt_5068e cJ0_charAt_5068e 2 (some .char), Cond.methodLink RJ0 492 yJ0_isLatin1_aae02, Cond.instanceMethod yJ0_isLatin1_aae02, Cond.selects RJ0 yJ0_isLatin1_aae02 yJ0_isLatin1_aae02, Cond.code yJ0_isLatin1_aae02 cJ0_isLatin1_aae02 1 (some .boolean), Cond.methodLink RJ0 495 yJ1_charAt_3b067, Cond.static yJ1_charAt_3b067, Cond.initialized RJ1, Cond.code yJ1_charAt_3b067 cJ1_charAt_3b067 2 (some .char), Cond.methodLink RJ1 9 yJ0_checkIndex_df160, Cond.static yJ0_checkIndex_df160, Cond.code yJ0_checkIndex_df160 cJ0_checkIndex_df160 2 none, Cond.fieldLink RJ0 1053 "jdk/internal/util/Preconditions" "SIOOBE_FORMATTER" "Ljava/util/function/BiFunction;", Cond.methodLink RJ0 1059 yJ3_checkIndex_8e157, Cond.static yJ3_checkIndex_8e157]
def wsX3_put_r3 : List Cond := [Cond.initialized RJ3, Cond.code yJ3_checkIndex_8e157 cJ3_checkIndex_8e157 3 (some .int), Cond.methodLink RJ0 498 yJ2_charAt_3b067, Cond.static yJ2_charAt_3b067, Cond.initialized RJ2, Cond.code yJ2_charAt_3b067 cJ2_charAt_3b067 2 (some .char), Cond.methodLink RJ2 67 yJ2_checkIndex_2214a, Cond.static yJ2_checkIndex_2214a, Cond.code yJ2_checkIndex_2214a cJ2_checkIndex_2214a 2 none, Cond.methodLink RJ2 48 yJ2_length_9d52b, Cond.static yJ2_length_9d52b, Cond.code yJ2_length_9d52b cJ2_length_9d52b 1 (some .int), Cond.methodLink RJ2 414 yJ0_checkIndex_df160, Cond.methodLink RJ2 71 yJ2_getChar_3b067, Cond.static yJ2_getChar_3b067, Cond.code yJ2_getChar_3b067 cJ2_getChar_3b067 2 (some .char), Cond.fieldLink RJ2 44 "java/lang/StringUTF16" "$assertionsDisabled" "Z", Cond.fieldLink RJ2 59 "java/lang/StringUTF16" "HI_BYTE_SHIFT" "I", Cond.fieldLink RJ2 63 "java/lang/StringUTF16" "LO_BYTE_SHIFT" "I", Cond.methodLink RX1 67 yX1_nameAt, Cond.static yX1_nameAt, Cond.code yX1_nameAt cX1_nameAt 6 (some .int), Cond.methodLink RX1 29 yX1_opInRow, Cond.static yX1_opInRow]
def wsX3_put_r4 : List Cond := [Cond.code yX1_opInRow cX1_opInRow 5 (some .int), Cond.methodLink RX1 13 yX1_evenNamed, Cond.static yX1_evenNamed, Cond.code yX1_evenNamed cX1_evenNamed 3 (some .int), Cond.methodLink RX1 16 yX1_oddNamed, Cond.static yX1_oddNamed, Cond.code yX1_oddNamed cX1_oddNamed 4 (some .int), Cond.methodLink RX3 37 yX3_isBeyond, Cond.static yX3_isBeyond, Cond.initialized RX3, Cond.code yX3_isBeyond cX3_isBeyond 2 (some .boolean), Cond.constantLong RX3 106 (16384), Cond.instanceMethod yX0_store, Cond.initialized RX0, Cond.selects RX0 yX0_store yX0_store, Cond.code yX0_store cX0_store 9 none, Cond.fieldLink RX0 9 "MixBench$Memory" "octas" "[J", Cond.constantLong RX0 15 (-1), Cond.methodLink RX0 21 yX0_shiftOf, Cond.static yX0_shiftOf, Cond.code yX0_shiftOf cX0_shiftOf 4 (some .int), Cond.methodLink RX0 17 yX0_octaOf, Cond.static yX0_octaOf, Cond.code yX0_octaOf cX0_octaOf 2 (some .int)]
def wsX3_put_r5 : List Cond := [Cond.methodLink RX0 25 yX0_maskOf, Cond.static yX0_maskOf, Cond.code yX0_maskOf cX0_maskOf 1 (some .long)]
def wsX3_put : List Cond := .code yX3_put cX3_put 7 (some .int) :: ((wsX3_put_r1 ++ (wsX3_put_r2 ++ (wsX3_put_r3 ++ (wsX3_put_r4 ++ wsX3_put_r5)))) ++ wsX30 ++ wsX00 ++ (vx_atS RX3 34 "java/util/NoSuchElementException" ["java/lang/RuntimeException", "java/lang/Exception"]).filter goodWord ++ (vx_atS RX3 45 "java/lang/IndexOutOfBoundsException" ["java/lang/RuntimeException", "java/lang/Exception"]).filter goodWord)
def wsX3_byteY : List Cond := .code yX3_byteY cX3_byteY 1 (some .int) :: ([])
def wsX3_byteZ : List Cond := .code yX3_byteZ cX3_byteZ 1 (some .int) :: ([])
def wsX3_byteX : List Cond := .code yX3_byteX cX3_byteX 1 (some .int) :: ([])
def wsX3_followFetch : List Cond := .code yX3_followFetch cX3_followFetch 2 none :: ([.constantLong RX3 138 (31), .fieldLink RX3 98 "MixBench" "trail" "J", .fieldLink RX3 9 "MixBench" "registers" "[J", .methodLink RX3 117 yX3_byteY, .static yX3_byteY, .initialized RX3, .code yX3_byteY cX3_byteY 1 (some .int), .methodLink RX3 140 yX3_byteZ, .static yX3_byteZ, .code yX3_byteZ cX3_byteZ 1 (some .int), .methodLink RX3 143 yX3_byteX, .static yX3_byteX, .code yX3_byteX cX3_byteX 1 (some .int)] ++ wsX30)
def wsX3_opOf : List Cond := .code yX3_opOf cX3_opOf 1 (some .int) :: ([])
def wsX3_isLegal : List Cond := .code yX3_isLegal cX3_isLegal 2 (some .boolean) :: ([.methodLink RX3 124 yX3_opOf, .static yX3_opOf, .initialized RX3, .code yX3_opOf cX3_opOf 1 (some .int), .methodLink RX3 143 yX3_byteX, .static yX3_byteX, .code yX3_byteX cX3_byteX 1 (some .int), .methodLink RX3 140 yX3_byteZ, .static yX3_byteZ, .code yX3_byteZ cX3_byteZ 1 (some .int)])
def wsX3_operandZ : List Cond := .code yX3_operandZ cX3_operandZ 4 (some .long) :: ([.fieldLink RX3 9 "MixBench" "registers" "[J", .methodLink RX3 124 yX3_opOf, .static yX3_opOf, .initialized RX3, .code yX3_opOf cX3_opOf 1 (some .int), .methodLink RX3 140 yX3_byteZ, .static yX3_byteZ, .code yX3_byteZ cX3_byteZ 1 (some .int)] ++ wsX30)
def wsX3_isGo : List Cond := .code yX3_isGo cX3_isGo 1 (some .boolean) :: ([])
def wsX3_isLoadOrStore : List Cond := .code yX3_isLoadOrStore cX3_isLoadOrStore 1 (some .boolean) :: ([.methodLink RX3 146 yX3_isGo, .static yX3_isGo, .initialized RX3, .code yX3_isGo cX3_isGo 1 (some .boolean)])
def wsX3_leastOops : List Cond := .code yX3_leastOops cX3_leastOops 1 (some .int) :: ([])
def wsX3_bill : List Cond := .code yX3_bill cX3_bill 3 none :: ([.fieldLink RX3 16 "MixBench" "tallies" "[J", .fieldLink RX3 101 "MixBench" "lastTally" "J", .fieldLink RX3 87 "MixBench" "oops" "J", .fieldLink RX3 95 "MixBench" "mems" "J", .methodLink RX3 149 yX3_leastOops, .static yX3_leastOops, .initialized RX3, .code yX3_leastOops cX3_leastOops 1 (some .int)] ++ wsX30)
def wsX3_trap : List Cond := .code yX3_trap cX3_trap 4 none :: ([.fieldLink RX3 73 "MixBench" "pc" "J", .fieldLink RX3 90 "MixBench" "outputLength" "I", .fieldLink RX3 19 "MixBench" "outputBytes" "[B", .fieldLink RX3 9 "MixBench" "registers" "[J", .methodLink RX3 140 yX3_byteZ, .static yX3_byteZ, .initialized RX3, .code yX3_byteZ cX3_byteZ 1 (some .int)] ++ wsX30)
def wsX3_raise : List Cond := .code yX3_raise cX3_raise 4 none :: ([.fieldLink RX3 13 "MixBench" "specials" "[J"] ++ wsX30)
def wsJ9_floorDiv_f86c9 : List Cond := .code yJ9_floorDiv_f86c9 cJ9_floorDiv_f86c9 6 (some .long) :: ([])
def wsX3_quotient : List Cond := .code yX3_quotient cX3_quotient 7 (some .long) :: ([.constantLong RX3 219 (128), .fieldLink RX3 13 "MixBench" "specials" "[J", .constantLong RX3 199 (64), .constantLong RX3 221 (-9223372036854775808), .constantLong RX3 104 (-1), .methodLink RX3 205 yX3_raise, .instanceMethod yX3_raise, .selects RX3 yX3_raise yX3_raise, .initialized RX3, .code yX3_raise cX3_raise 4 none, .methodLink RX3 223 yJ9_floorDiv_f86c9, .static yJ9_floorDiv_f86c9, .initialized RJ9, .code yJ9_floorDiv_f86c9 cJ9_floorDiv_f86c9 6 (some .long)] ++ wsX30)
def wsX3_longQuotient : List Cond := .code yX3_longQuotient cX3_longQuotient 13 (some .long) :: ([.fieldLink RX3 13 "MixBench" "specials" "[J", .static yX2_isAbove, .initialized RX2, .code yX2_isAbove cX2_isAbove 4 (some .boolean), .constantLong RX2 9 (-9223372036854775808)] ++ wsX30)
def wsX3_productOrQuotient_r1 : List Cond := [Cond.constantLong RX3 199 (64), Cond.fieldLink RX3 13 "MixBench" "specials" "[J", Cond.static yX2_highOfSignedProduct, Cond.initialized RX2, Cond.code yX2_highOfSignedProduct cX2_highOfSignedProduct 4 (some .long), Cond.methodLink RX2 13 yX2_highOfProduct, Cond.static yX2_highOfProduct, Cond.code yX2_highOfProduct cX2_highOfProduct 16 (some .long), Cond.constantLong RX2 11 (4294967295), Cond.methodLink RX3 205 yX3_raise, Cond.instanceMethod yX3_raise, Cond.selects RX3 yX3_raise yX3_raise, Cond.initialized RX3, Cond.code yX3_raise cX3_raise 4 none, Cond.methodLink RX3 212 yX3_quotient, Cond.instanceMethod yX3_quotient, Cond.selects RX3 yX3_quotient yX3_quotient, Cond.code yX3_quotient cX3_quotient 7 (some .long), Cond.constantLong RX3 219 (128), Cond.constantLong RX3 221 (-9223372036854775808), Cond.constantLong RX3 104 (-1), Cond.methodLink RX3 223 yJ9_floorDiv_f86c9, Cond.static yJ9_floorDiv_f86c9, Cond.initialized RJ9]
def wsX3_productOrQuotient_r2 : List Cond := [Cond.code yJ9_floorDiv_f86c9 cJ9_floorDiv_f86c9 6 (some .long), Cond.methodLink RX3 215 yX3_longQuotient, Cond.instanceMethod yX3_longQuotient, Cond.selects RX3 yX3_longQuotient yX3_longQuotient, Cond.code yX3_longQuotient cX3_longQuotient 13 (some .long), Cond.static yX2_isAbove, Cond.code yX2_isAbove cX2_isAbove 4 (some .boolean), Cond.constantLong RX2 9 (-9223372036854775808)]
def wsX3_productOrQuotient : List Cond := .code yX3_productOrQuotient cX3_productOrQuotient 6 (some .long) :: ((wsX3_productOrQuotient_r1 ++ wsX3_productOrQuotient_r2) ++ wsX30)
def wsX3_writeX : List Cond := .code yX3_writeX cX3_writeX 5 none :: ([.constantLong RX3 197 (37), .fieldLink RX3 98 "MixBench" "trail" "J", .fieldLink RX3 9 "MixBench" "registers" "[J", .methodLink RX3 143 yX3_byteX, .static yX3_byteX, .initialized RX3, .code yX3_byteX cX3_byteX 1 (some .int)] ++ wsX30)
def wsX3_checkedSum : List Cond := .code yX3_checkedSum cX3_checkedSum 7 (some .long) :: ([.constantLong RX3 199 (64), .methodLink RX3 205 yX3_raise, .instanceMethod yX3_raise, .selects RX3 yX3_raise yX3_raise, .initialized RX3, .code yX3_raise cX3_raise 4 none, .fieldLink RX3 13 "MixBench" "specials" "[J"] ++ wsX30)
def wsX3_checkedDifference : List Cond := .code yX3_checkedDifference cX3_checkedDifference 7 (some .long) :: ([.constantLong RX3 199 (64), .methodLink RX3 205 yX3_raise, .instanceMethod yX3_raise, .selects RX3 yX3_raise yX3_raise, .initialized RX3, .code yX3_raise cX3_raise 4 none, .fieldLink RX3 13 "MixBench" "specials" "[J"] ++ wsX30)
def wsX3_sumOrDifference : List Cond := .code yX3_sumOrDifference cX3_sumOrDifference 6 (some .long) :: ([.methodLink RX3 232 yX3_checkedSum, .instanceMethod yX3_checkedSum, .selects RX3 yX3_checkedSum yX3_checkedSum, .initialized RX3, .code yX3_checkedSum cX3_checkedSum 7 (some .long), .constantLong RX3 199 (64), .methodLink RX3 205 yX3_raise, .instanceMethod yX3_raise, .selects RX3 yX3_raise yX3_raise, .code yX3_raise cX3_raise 4 none, .fieldLink RX3 13 "MixBench" "specials" "[J", .methodLink RX3 235 yX3_checkedDifference, .instanceMethod yX3_checkedDifference, .selects RX3 yX3_checkedDifference yX3_checkedDifference, .code yX3_checkedDifference cX3_checkedDifference 7 (some .long)] ++ wsX30)
def wsX3_checkedShift : List Cond := .code yX3_checkedShift cX3_checkedShift 7 (some .long) :: ([.constantLong RX3 199 (64), .static yX2_shiftLeft, .initialized RX2, .code yX2_shiftLeft cX2_shiftLeft 4 (some .long), .methodLink RX2 21 yX2_isWholeShift, .static yX2_isWholeShift, .code yX2_isWholeShift cX2_isWholeShift 2 (some .boolean), .constantLong RX2 19 (64), .static yX2_shiftRight, .code yX2_shiftRight cX2_shiftRight 4 (some .long), .methodLink RX3 205 yX3_raise, .instanceMethod yX3_raise, .selects RX3 yX3_raise yX3_raise, .initialized RX3, .code yX3_raise cX3_raise 4 none, .fieldLink RX3 13 "MixBench" "specials" "[J"] ++ wsX30)
def wsX3_comparedOrShifted_r1 : List Cond := [Cond.constantLong RX3 104 (-1), Cond.methodLink RX3 124 yX3_opOf, Cond.static yX3_opOf, Cond.initialized RX3, Cond.code yX3_opOf cX3_opOf 1 (some .int), Cond.static yX2_isAbove, Cond.initialized RX2, Cond.code yX2_isAbove cX2_isAbove 4 (some .boolean), Cond.constantLong RX2 9 (-9223372036854775808), Cond.methodLink RX3 117 yX3_byteY, Cond.static yX3_byteY, Cond.code yX3_byteY cX3_byteY 1 (some .int), Cond.methodLink RX3 235 yX3_checkedDifference, Cond.instanceMethod yX3_checkedDifference, Cond.selects RX3 yX3_checkedDifference yX3_checkedDifference, Cond.code yX3_checkedDifference cX3_checkedDifference 7 (some .long), Cond.constantLong RX3 199 (64), Cond.methodLink RX3 205 yX3_raise, Cond.instanceMethod yX3_raise, Cond.selects RX3 yX3_raise yX3_raise, Cond.code yX3_raise cX3_raise 4 none, Cond.fieldLink RX3 13 "MixBench" "specials" "[J", Cond.methodLink RX3 238 yX3_checkedShift, Cond.instanceMethod yX3_checkedShift]
def wsX3_comparedOrShifted_r2 : List Cond := [Cond.selects RX3 yX3_checkedShift yX3_checkedShift, Cond.code yX3_checkedShift cX3_checkedShift 7 (some .long), Cond.static yX2_shiftLeft, Cond.code yX2_shiftLeft cX2_shiftLeft 4 (some .long), Cond.methodLink RX2 21 yX2_isWholeShift, Cond.static yX2_isWholeShift, Cond.code yX2_isWholeShift cX2_isWholeShift 2 (some .boolean), Cond.constantLong RX2 19 (64), Cond.static yX2_shiftRight, Cond.code yX2_shiftRight cX2_shiftRight 4 (some .long), Cond.static yX2_shiftRightUnsigned, Cond.code yX2_shiftRightUnsigned cX2_shiftRightUnsigned 4 (some .long)]
def wsX3_comparedOrShifted : List Cond := .code yX3_comparedOrShifted cX3_comparedOrShifted 6 (some .long) :: ((wsX3_comparedOrShifted_r1 ++ wsX3_comparedOrShifted_r2) ++ wsX30)
def wsX3_holds : List Cond := .code yX3_holds cX3_holds 3 (some .boolean) :: ([])
def wsX3_wydeYZ : List Cond := .code yX3_wydeYZ cX3_wydeYZ 1 (some .int) :: ([.constant RX3 108 (65535)])
def wsX3_relative : List Cond := .code yX3_relative cX3_relative 4 (some .long) :: ([.constantLong RX3 152 (4), .constant RX3 263 (65536), .methodLink RX3 124 yX3_opOf, .static yX3_opOf, .initialized RX3, .code yX3_opOf cX3_opOf 1 (some .int), .methodLink RX3 260 yX3_wydeYZ, .static yX3_wydeYZ, .code yX3_wydeYZ cX3_wydeYZ 1 (some .int), .constant RX3 108 (65535)])
def wsX3_branch : List Cond := .code yX3_branch cX3_branch 7 none :: ([.fieldLink RX3 9 "MixBench" "registers" "[J", .fieldLink RX3 87 "MixBench" "oops" "J", .constantLong RX3 254 (2), .fieldLink RX3 73 "MixBench" "pc" "J", .methodLink RX3 124 yX3_opOf, .static yX3_opOf, .initialized RX3, .code yX3_opOf cX3_opOf 1 (some .int), .methodLink RX3 143 yX3_byteX, .static yX3_byteX, .code yX3_byteX cX3_byteX 1 (some .int), .methodLink RX3 250 yX3_holds, .static yX3_holds, .code yX3_holds cX3_holds 3 (some .boolean), .methodLink RX3 256 yX3_relative, .static yX3_relative, .code yX3_relative cX3_relative 4 (some .long), .constantLong RX3 152 (4), .constant RX3 263 (65536), .methodLink RX3 260 yX3_wydeYZ, .static yX3_wydeYZ, .code yX3_wydeYZ cX3_wydeYZ 1 (some .int), .constant RX3 108 (65535)] ++ wsX30)
def wsX3_choose : List Cond := .code yX3_choose cX3_choose 7 none :: ([.methodLink RX3 124 yX3_opOf, .static yX3_opOf, .initialized RX3, .code yX3_opOf cX3_opOf 1 (some .int), .methodLink RX3 250 yX3_holds, .static yX3_holds, .code yX3_holds cX3_holds 3 (some .boolean), .methodLink RX3 162 yX3_writeX, .instanceMethod yX3_writeX, .selects RX3 yX3_writeX yX3_writeX, .code yX3_writeX cX3_writeX 5 none, .constantLong RX3 197 (37), .fieldLink RX3 98 "MixBench" "trail" "J", .fieldLink RX3 9 "MixBench" "registers" "[J", .methodLink RX3 143 yX3_byteX, .static yX3_byteX, .code yX3_byteX cX3_byteX 1 (some .int)] ++ wsX30)
def wsX3_sizeOf : List Cond := .code yX3_sizeOf cX3_sizeOf 1 (some .int) :: ([])
def wsX3_isUnsigned : List Cond := .code yX3_isUnsigned cX3_isUnsigned 1 (some .boolean) :: ([])
def wsX3_loadOrGo_r1 : List Cond := [Cond.constantLong RX3 152 (4), Cond.constantLong RX3 264 (-4), Cond.fieldLink RX3 73 "MixBench" "pc" "J", Cond.fieldLink RX3 26 "MixBench" "memory" "LMixBench$Memory;", Cond.methodLink RX3 124 yX3_opOf, Cond.static yX3_opOf, Cond.initialized RX3, Cond.code yX3_opOf cX3_opOf 1 (some .int), Cond.methodLink RX3 146 yX3_isGo, Cond.static yX3_isGo, Cond.code yX3_isGo cX3_isGo 1 (some .boolean), Cond.methodLink RX3 162 yX3_writeX, Cond.instanceMethod yX3_writeX, Cond.selects RX3 yX3_writeX yX3_writeX, Cond.code yX3_writeX cX3_writeX 5 none, Cond.constantLong RX3 197 (37), Cond.fieldLink RX3 98 "MixBench" "trail" "J", Cond.fieldLink RX3 9 "MixBench" "registers" "[J", Cond.methodLink RX3 143 yX3_byteX, Cond.static yX3_byteX, Cond.code yX3_byteX cX3_byteX 1 (some .int), Cond.instanceMethod yX0_load, Cond.initialized RX0, Cond.selects RX0 yX0_load yX0_load]
def wsX3_loadOrGo_r2 : List Cond := [Cond.code yX0_load cX0_load 4 (some .long), Cond.fieldLink RX0 9 "MixBench$Memory" "octas" "[J", Cond.methodLink RX0 17 yX0_octaOf, Cond.static yX0_octaOf, Cond.code yX0_octaOf cX0_octaOf 2 (some .int), Cond.methodLink RX0 21 yX0_shiftOf, Cond.static yX0_shiftOf, Cond.code yX0_shiftOf cX0_shiftOf 4 (some .int), Cond.methodLink RX0 25 yX0_maskOf, Cond.static yX0_maskOf, Cond.code yX0_maskOf cX0_maskOf 1 (some .long), Cond.constantLong RX0 15 (-1), Cond.methodLink RX3 266 yX3_sizeOf, Cond.static yX3_sizeOf, Cond.code yX3_sizeOf cX3_sizeOf 1 (some .int), Cond.methodLink RX3 269 yX3_isUnsigned, Cond.static yX3_isUnsigned, Cond.code yX3_isUnsigned cX3_isUnsigned 1 (some .boolean), Cond.static yX2_signed, Cond.initialized RX2, Cond.code yX2_signed cX2_signed 4 (some .long)]
def wsX3_loadOrGo : List Cond := .code yX3_loadOrGo cX3_loadOrGo 9 none :: ((wsX3_loadOrGo_r1 ++ wsX3_loadOrGo_r2) ++ wsX30 ++ wsX00)
def wsX3_storeX_r1 : List Cond := [Cond.fieldLink RX3 9 "MixBench" "registers" "[J", Cond.fieldLink RX3 26 "MixBench" "memory" "LMixBench$Memory;", Cond.constantLong RX3 199 (64), Cond.methodLink RX3 124 yX3_opOf, Cond.static yX3_opOf, Cond.initialized RX3, Cond.code yX3_opOf cX3_opOf 1 (some .int), Cond.methodLink RX3 143 yX3_byteX, Cond.static yX3_byteX, Cond.code yX3_byteX cX3_byteX 1 (some .int), Cond.instanceMethod yX0_store, Cond.initialized RX0, Cond.selects RX0 yX0_store yX0_store, Cond.code yX0_store cX0_store 9 none, Cond.fieldLink RX0 9 "MixBench$Memory" "octas" "[J", Cond.constantLong RX0 15 (-1), Cond.methodLink RX0 21 yX0_shiftOf, Cond.static yX0_shiftOf, Cond.code yX0_shiftOf cX0_shiftOf 4 (some .int), Cond.methodLink RX0 17 yX0_octaOf, Cond.static yX0_octaOf, Cond.code yX0_octaOf cX0_octaOf 2 (some .int), Cond.methodLink RX0 25 yX0_maskOf, Cond.static yX0_maskOf]
def wsX3_storeX_r2 : List Cond := [Cond.code yX0_maskOf cX0_maskOf 1 (some .long), Cond.methodLink RX3 269 yX3_isUnsigned, Cond.static yX3_isUnsigned, Cond.code yX3_isUnsigned cX3_isUnsigned 1 (some .boolean), Cond.methodLink RX3 266 yX3_sizeOf, Cond.static yX3_sizeOf, Cond.code yX3_sizeOf cX3_sizeOf 1 (some .int), Cond.static yX2_signed, Cond.initialized RX2, Cond.code yX2_signed cX2_signed 4 (some .long), Cond.methodLink RX3 205 yX3_raise, Cond.instanceMethod yX3_raise, Cond.selects RX3 yX3_raise yX3_raise, Cond.code yX3_raise cX3_raise 4 none, Cond.fieldLink RX3 13 "MixBench" "specials" "[J"]
def wsX3_storeX : List Cond := .code yX3_storeX cX3_storeX 7 none :: ((wsX3_storeX_r1 ++ wsX3_storeX_r2) ++ wsX30 ++ wsX00)
def wsJ13_bitCount_95d88 : List Cond := .code yJ13_bitCount_95d88 cJ13_bitCount_95d88 2 (some .int) :: ([.constantLong RJ13 314 (6148914691236517205), .constantLong RJ13 316 (3689348814741910323), .constantLong RJ13 318 (1085102592571150095)])
def wsX3_bytewise : List Cond := .code yX3_bytewise cX3_bytewise 6 (some .long) :: ([.fieldLink RX3 13 "MixBench" "specials" "[J", .constantLong RX3 104 (-1), .static yX2_differences, .initialized RX2, .code yX2_differences cX2_differences 14 (some .long), .constantLong RX2 25 (-1), .methodLink RX2 27 yX2_isAbove, .static yX2_isAbove, .code yX2_isAbove cX2_isAbove 4 (some .boolean), .constantLong RX2 9 (-9223372036854775808), .methodLink RX3 279 yJ13_bitCount_95d88, .static yJ13_bitCount_95d88, .initialized RJ13, .code yJ13_bitCount_95d88 cJ13_bitCount_95d88 2 (some .int), .constantLong RJ13 314 (6148914691236517205), .constantLong RJ13 316 (3689348814741910323), .constantLong RJ13 318 (1085102592571150095), .static yX2_matrixProduct, .code yX2_matrixProduct cX2_matrixProduct 12 (some .long), .constantLong RX2 31 (72340172838076673), .constantLong RX2 33 (255)] ++ wsX30)
def wsX3_withWyde : List Cond := .code yX3_withWyde cX3_withWyde 7 (some .long) :: ([.fieldLink RX3 9 "MixBench" "registers" "[J", .constantLong RX3 104 (-1), .methodLink RX3 124 yX3_opOf, .static yX3_opOf, .initialized RX3, .code yX3_opOf cX3_opOf 1 (some .int), .methodLink RX3 143 yX3_byteX, .static yX3_byteX, .code yX3_byteX cX3_byteX 1 (some .int), .methodLink RX3 260 yX3_wydeYZ, .static yX3_wydeYZ, .code yX3_wydeYZ cX3_wydeYZ 1 (some .int), .constant RX3 108 (65535)] ++ wsX30)
def wsX3_performRest_r1 : List Cond := [Cond.constant RX3 289 (16777215), Cond.constantLong RX3 152 (4), Cond.fieldLink RX3 73 "MixBench" "pc" "J", Cond.constant RX3 290 (16777216), Cond.fieldLink RX3 13 "MixBench" "specials" "[J", Cond.methodLink RX3 124 yX3_opOf, Cond.static yX3_opOf, Cond.initialized RX3, Cond.code yX3_opOf cX3_opOf 1 (some .int), Cond.methodLink RX3 256 yX3_relative, Cond.static yX3_relative, Cond.code yX3_relative cX3_relative 4 (some .long), Cond.constant RX3 263 (65536), Cond.methodLink RX3 260 yX3_wydeYZ, Cond.static yX3_wydeYZ, Cond.code yX3_wydeYZ cX3_wydeYZ 1 (some .int), Cond.constant RX3 108 (65535), Cond.methodLink RX3 162 yX3_writeX, Cond.instanceMethod yX3_writeX, Cond.selects RX3 yX3_writeX yX3_writeX, Cond.code yX3_writeX cX3_writeX 5 none, Cond.constantLong RX3 197 (37), Cond.fieldLink RX3 98 "MixBench" "trail" "J", Cond.fieldLink RX3 9 "MixBench" "registers" "[J"]
def wsX3_performRest_r2 : List Cond := [Cond.methodLink RX3 143 yX3_byteX, Cond.static yX3_byteX, Cond.code yX3_byteX cX3_byteX 1 (some .int), Cond.methodLink RX3 140 yX3_byteZ, Cond.static yX3_byteZ, Cond.code yX3_byteZ cX3_byteZ 1 (some .int)]
def wsX3_performRest : List Cond := .code yX3_performRest cX3_performRest 7 none :: ((wsX3_performRest_r1 ++ wsX3_performRest_r2) ++ wsX30)
def wsX3_perform_r1 : List Cond := [Cond.fieldLink RX3 73 "MixBench" "pc" "J", Cond.constantLong RX3 152 (4), Cond.methodLink RX3 124 yX3_opOf, Cond.static yX3_opOf, Cond.initialized RX3, Cond.code yX3_opOf cX3_opOf 1 (some .int), Cond.methodLink RX3 154 yX3_trap, Cond.instanceMethod yX3_trap, Cond.selects RX3 yX3_trap yX3_trap, Cond.code yX3_trap cX3_trap 4 none, Cond.fieldLink RX3 90 "MixBench" "outputLength" "I", Cond.fieldLink RX3 19 "MixBench" "outputBytes" "[B", Cond.fieldLink RX3 9 "MixBench" "registers" "[J", Cond.methodLink RX3 140 yX3_byteZ, Cond.static yX3_byteZ, Cond.code yX3_byteZ cX3_byteZ 1 (some .int), Cond.methodLink RX3 158 yX3_productOrQuotient, Cond.instanceMethod yX3_productOrQuotient, Cond.selects RX3 yX3_productOrQuotient yX3_productOrQuotient, Cond.code yX3_productOrQuotient cX3_productOrQuotient 6 (some .long), Cond.constantLong RX3 199 (64), Cond.fieldLink RX3 13 "MixBench" "specials" "[J", Cond.static yX2_highOfSignedProduct, Cond.initialized RX2]
def wsX3_perform_r2 : List Cond := [Cond.code yX2_highOfSignedProduct cX2_highOfSignedProduct 4 (some .long), Cond.methodLink RX2 13 yX2_highOfProduct, Cond.static yX2_highOfProduct, Cond.code yX2_highOfProduct cX2_highOfProduct 16 (some .long), Cond.constantLong RX2 11 (4294967295), Cond.methodLink RX3 205 yX3_raise, Cond.instanceMethod yX3_raise, Cond.selects RX3 yX3_raise yX3_raise, Cond.code yX3_raise cX3_raise 4 none, Cond.methodLink RX3 212 yX3_quotient, Cond.instanceMethod yX3_quotient, Cond.selects RX3 yX3_quotient yX3_quotient, Cond.code yX3_quotient cX3_quotient 7 (some .long), Cond.constantLong RX3 219 (128), Cond.constantLong RX3 221 (-9223372036854775808), Cond.constantLong RX3 104 (-1), Cond.methodLink RX3 223 yJ9_floorDiv_f86c9, Cond.static yJ9_floorDiv_f86c9, Cond.initialized RJ9, Cond.code yJ9_floorDiv_f86c9 cJ9_floorDiv_f86c9 6 (some .long), Cond.methodLink RX3 215 yX3_longQuotient, Cond.instanceMethod yX3_longQuotient, Cond.selects RX3 yX3_longQuotient yX3_longQuotient, Cond.code yX3_longQuotient cX3_longQuotient 13 (some .long)]
def wsX3_perform_r3 : List Cond := [Cond.static yX2_isAbove, Cond.code yX2_isAbove cX2_isAbove 4 (some .boolean), Cond.constantLong RX2 9 (-9223372036854775808), Cond.methodLink RX3 162 yX3_writeX, Cond.instanceMethod yX3_writeX, Cond.selects RX3 yX3_writeX yX3_writeX, Cond.code yX3_writeX cX3_writeX 5 none, Cond.constantLong RX3 197 (37), Cond.fieldLink RX3 98 "MixBench" "trail" "J", Cond.methodLink RX3 143 yX3_byteX, Cond.static yX3_byteX, Cond.code yX3_byteX cX3_byteX 1 (some .int), Cond.methodLink RX3 165 yX3_sumOrDifference, Cond.instanceMethod yX3_sumOrDifference, Cond.selects RX3 yX3_sumOrDifference yX3_sumOrDifference, Cond.code yX3_sumOrDifference cX3_sumOrDifference 6 (some .long), Cond.methodLink RX3 232 yX3_checkedSum, Cond.instanceMethod yX3_checkedSum, Cond.selects RX3 yX3_checkedSum yX3_checkedSum, Cond.code yX3_checkedSum cX3_checkedSum 7 (some .long), Cond.methodLink RX3 235 yX3_checkedDifference, Cond.instanceMethod yX3_checkedDifference, Cond.selects RX3 yX3_checkedDifference yX3_checkedDifference, Cond.code yX3_checkedDifference cX3_checkedDifference 7 (some .long)]
def wsX3_perform_r4 : List Cond := [Cond.methodLink RX3 168 yX3_comparedOrShifted, Cond.instanceMethod yX3_comparedOrShifted, Cond.selects RX3 yX3_comparedOrShifted yX3_comparedOrShifted, Cond.code yX3_comparedOrShifted cX3_comparedOrShifted 6 (some .long), Cond.methodLink RX3 117 yX3_byteY, Cond.static yX3_byteY, Cond.code yX3_byteY cX3_byteY 1 (some .int), Cond.methodLink RX3 238 yX3_checkedShift, Cond.instanceMethod yX3_checkedShift, Cond.selects RX3 yX3_checkedShift yX3_checkedShift, Cond.code yX3_checkedShift cX3_checkedShift 7 (some .long), Cond.static yX2_shiftLeft, Cond.code yX2_shiftLeft cX2_shiftLeft 4 (some .long), Cond.methodLink RX2 21 yX2_isWholeShift, Cond.static yX2_isWholeShift, Cond.code yX2_isWholeShift cX2_isWholeShift 2 (some .boolean), Cond.constantLong RX2 19 (64), Cond.static yX2_shiftRight, Cond.code yX2_shiftRight cX2_shiftRight 4 (some .long), Cond.static yX2_shiftRightUnsigned, Cond.code yX2_shiftRightUnsigned cX2_shiftRightUnsigned 4 (some .long), Cond.methodLink RX3 171 yX3_branch, Cond.instanceMethod yX3_branch, Cond.selects RX3 yX3_branch yX3_branch]
def wsX3_perform_r5 : List Cond := [Cond.code yX3_branch cX3_branch 7 none, Cond.fieldLink RX3 87 "MixBench" "oops" "J", Cond.constantLong RX3 254 (2), Cond.methodLink RX3 250 yX3_holds, Cond.static yX3_holds, Cond.code yX3_holds cX3_holds 3 (some .boolean), Cond.methodLink RX3 256 yX3_relative, Cond.static yX3_relative, Cond.code yX3_relative cX3_relative 4 (some .long), Cond.constant RX3 263 (65536), Cond.methodLink RX3 260 yX3_wydeYZ, Cond.static yX3_wydeYZ, Cond.code yX3_wydeYZ cX3_wydeYZ 1 (some .int), Cond.constant RX3 108 (65535), Cond.methodLink RX3 174 yX3_choose, Cond.instanceMethod yX3_choose, Cond.selects RX3 yX3_choose yX3_choose, Cond.code yX3_choose cX3_choose 7 none, Cond.methodLink RX3 177 yX3_loadOrGo, Cond.instanceMethod yX3_loadOrGo, Cond.selects RX3 yX3_loadOrGo yX3_loadOrGo, Cond.code yX3_loadOrGo cX3_loadOrGo 9 none, Cond.constantLong RX3 264 (-4), Cond.fieldLink RX3 26 "MixBench" "memory" "LMixBench$Memory;"]
def wsX3_perform_r6 : List Cond := [Cond.methodLink RX3 146 yX3_isGo, Cond.static yX3_isGo, Cond.code yX3_isGo cX3_isGo 1 (some .boolean), Cond.instanceMethod yX0_load, Cond.initialized RX0, Cond.selects RX0 yX0_load yX0_load, Cond.code yX0_load cX0_load 4 (some .long), Cond.fieldLink RX0 9 "MixBench$Memory" "octas" "[J", Cond.methodLink RX0 17 yX0_octaOf, Cond.static yX0_octaOf, Cond.code yX0_octaOf cX0_octaOf 2 (some .int), Cond.methodLink RX0 21 yX0_shiftOf, Cond.static yX0_shiftOf, Cond.code yX0_shiftOf cX0_shiftOf 4 (some .int), Cond.methodLink RX0 25 yX0_maskOf, Cond.static yX0_maskOf, Cond.code yX0_maskOf cX0_maskOf 1 (some .long), Cond.constantLong RX0 15 (-1), Cond.methodLink RX3 266 yX3_sizeOf, Cond.static yX3_sizeOf, Cond.code yX3_sizeOf cX3_sizeOf 1 (some .int), Cond.methodLink RX3 269 yX3_isUnsigned, Cond.static yX3_isUnsigned, Cond.code yX3_isUnsigned cX3_isUnsigned 1 (some .boolean)]
def wsX3_perform_r7 : List Cond := [Cond.static yX2_signed, Cond.code yX2_signed cX2_signed 4 (some .long), Cond.methodLink RX3 180 yX3_storeX, Cond.instanceMethod yX3_storeX, Cond.selects RX3 yX3_storeX yX3_storeX, Cond.code yX3_storeX cX3_storeX 7 none, Cond.instanceMethod yX0_store, Cond.selects RX0 yX0_store yX0_store, Cond.code yX0_store cX0_store 9 none, Cond.static yX2_bitwise, Cond.code yX2_bitwise cX2_bitwise 5 (some .long), Cond.constantLong RX2 25 (-1), Cond.methodLink RX3 188 yX3_bytewise, Cond.instanceMethod yX3_bytewise, Cond.selects RX3 yX3_bytewise yX3_bytewise, Cond.code yX3_bytewise cX3_bytewise 6 (some .long), Cond.static yX2_differences, Cond.code yX2_differences cX2_differences 14 (some .long), Cond.methodLink RX2 27 yX2_isAbove, Cond.methodLink RX3 279 yJ13_bitCount_95d88, Cond.static yJ13_bitCount_95d88, Cond.initialized RJ13, Cond.code yJ13_bitCount_95d88 cJ13_bitCount_95d88 2 (some .int), Cond.constantLong RJ13 314 (6148914691236517205)]
def wsX3_perform_r8 : List Cond := [Cond.constantLong RJ13 316 (3689348814741910323), Cond.constantLong RJ13 318 (1085102592571150095), Cond.static yX2_matrixProduct, Cond.code yX2_matrixProduct cX2_matrixProduct 12 (some .long), Cond.constantLong RX2 31 (72340172838076673), Cond.constantLong RX2 33 (255), Cond.methodLink RX3 191 yX3_withWyde, Cond.instanceMethod yX3_withWyde, Cond.selects RX3 yX3_withWyde yX3_withWyde, Cond.code yX3_withWyde cX3_withWyde 7 (some .long), Cond.methodLink RX3 194 yX3_performRest, Cond.instanceMethod yX3_performRest, Cond.selects RX3 yX3_performRest yX3_performRest, Cond.code yX3_performRest cX3_performRest 7 none, Cond.constant RX3 289 (16777215), Cond.constant RX3 290 (16777216)]
def wsX3_perform : List Cond := .code yX3_perform cX3_perform 9 none :: ((wsX3_perform_r1 ++ (wsX3_perform_r2 ++ (wsX3_perform_r3 ++ (wsX3_perform_r4 ++ (wsX3_perform_r5 ++ (wsX3_perform_r6 ++ (wsX3_perform_r7 ++ wsX3_perform_r8))))))) ++ wsX30 ++ wsX00)
def wsX3_doNext_r1 : List Cond := [Cond.fieldLink RX3 73 "MixBench" "pc" "J", Cond.fieldLink RX3 26 "MixBench" "memory" "LMixBench$Memory;", Cond.fieldLink RX3 9 "MixBench" "registers" "[J", Cond.methodLink RX3 37 yX3_isBeyond, Cond.static yX3_isBeyond, Cond.initialized RX3, Cond.code yX3_isBeyond cX3_isBeyond 2 (some .boolean), Cond.constantLong RX3 106 (16384), Cond.instanceMethod yX0_load, Cond.initialized RX0, Cond.selects RX0 yX0_load yX0_load, Cond.code yX0_load cX0_load 4 (some .long), Cond.fieldLink RX0 9 "MixBench$Memory" "octas" "[J", Cond.methodLink RX0 17 yX0_octaOf, Cond.static yX0_octaOf, Cond.code yX0_octaOf cX0_octaOf 2 (some .int), Cond.methodLink RX0 21 yX0_shiftOf, Cond.static yX0_shiftOf, Cond.code yX0_shiftOf cX0_shiftOf 4 (some .int), Cond.methodLink RX0 25 yX0_maskOf, Cond.static yX0_maskOf, Cond.code yX0_maskOf cX0_maskOf 1 (some .long), Cond.constantLong RX0 15 (-1), Cond.methodLink RX3 109 yX3_followFetch]
def wsX3_doNext_r2 : List Cond := [Cond.instanceMethod yX3_followFetch, Cond.selects RX3 yX3_followFetch yX3_followFetch, Cond.code yX3_followFetch cX3_followFetch 2 none, Cond.constantLong RX3 138 (31), Cond.fieldLink RX3 98 "MixBench" "trail" "J", Cond.methodLink RX3 117 yX3_byteY, Cond.static yX3_byteY, Cond.code yX3_byteY cX3_byteY 1 (some .int), Cond.methodLink RX3 140 yX3_byteZ, Cond.static yX3_byteZ, Cond.code yX3_byteZ cX3_byteZ 1 (some .int), Cond.methodLink RX3 143 yX3_byteX, Cond.static yX3_byteX, Cond.code yX3_byteX cX3_byteX 1 (some .int), Cond.methodLink RX3 113 yX3_isLegal, Cond.static yX3_isLegal, Cond.code yX3_isLegal cX3_isLegal 2 (some .boolean), Cond.methodLink RX3 124 yX3_opOf, Cond.static yX3_opOf, Cond.code yX3_opOf cX3_opOf 1 (some .int), Cond.methodLink RX3 120 yX3_operandZ, Cond.instanceMethod yX3_operandZ, Cond.selects RX3 yX3_operandZ yX3_operandZ, Cond.code yX3_operandZ cX3_operandZ 4 (some .long)]
def wsX3_doNext_r3 : List Cond := [Cond.methodLink RX3 127 yX3_isLoadOrStore, Cond.static yX3_isLoadOrStore, Cond.code yX3_isLoadOrStore cX3_isLoadOrStore 1 (some .boolean), Cond.methodLink RX3 146 yX3_isGo, Cond.static yX3_isGo, Cond.code yX3_isGo cX3_isGo 1 (some .boolean), Cond.methodLink RX3 130 yX3_bill, Cond.instanceMethod yX3_bill, Cond.selects RX3 yX3_bill yX3_bill, Cond.code yX3_bill cX3_bill 3 none, Cond.fieldLink RX3 16 "MixBench" "tallies" "[J", Cond.fieldLink RX3 101 "MixBench" "lastTally" "J", Cond.fieldLink RX3 87 "MixBench" "oops" "J", Cond.fieldLink RX3 95 "MixBench" "mems" "J", Cond.methodLink RX3 149 yX3_leastOops, Cond.static yX3_leastOops, Cond.code yX3_leastOops cX3_leastOops 1 (some .int), Cond.methodLink RX3 134 yX3_perform, Cond.instanceMethod yX3_perform, Cond.selects RX3 yX3_perform yX3_perform, Cond.code yX3_perform cX3_perform 9 none, Cond.constantLong RX3 152 (4), Cond.methodLink RX3 154 yX3_trap, Cond.instanceMethod yX3_trap]
def wsX3_doNext_r4 : List Cond := [Cond.selects RX3 yX3_trap yX3_trap, Cond.code yX3_trap cX3_trap 4 none, Cond.fieldLink RX3 90 "MixBench" "outputLength" "I", Cond.fieldLink RX3 19 "MixBench" "outputBytes" "[B", Cond.methodLink RX3 158 yX3_productOrQuotient, Cond.instanceMethod yX3_productOrQuotient, Cond.selects RX3 yX3_productOrQuotient yX3_productOrQuotient, Cond.code yX3_productOrQuotient cX3_productOrQuotient 6 (some .long), Cond.constantLong RX3 199 (64), Cond.fieldLink RX3 13 "MixBench" "specials" "[J", Cond.static yX2_highOfSignedProduct, Cond.initialized RX2, Cond.code yX2_highOfSignedProduct cX2_highOfSignedProduct 4 (some .long), Cond.methodLink RX2 13 yX2_highOfProduct, Cond.static yX2_highOfProduct, Cond.code yX2_highOfProduct cX2_highOfProduct 16 (some .long), Cond.constantLong RX2 11 (4294967295), Cond.methodLink RX3 205 yX3_raise, Cond.instanceMethod yX3_raise, Cond.selects RX3 yX3_raise yX3_raise, Cond.code yX3_raise cX3_raise 4 none, Cond.methodLink RX3 212 yX3_quotient, Cond.instanceMethod yX3_quotient, Cond.selects RX3 yX3_quotient yX3_quotient]
def wsX3_doNext_r5 : List Cond := [Cond.code yX3_quotient cX3_quotient 7 (some .long), Cond.constantLong RX3 219 (128), Cond.constantLong RX3 221 (-9223372036854775808), Cond.constantLong RX3 104 (-1), Cond.methodLink RX3 223 yJ9_floorDiv_f86c9, Cond.static yJ9_floorDiv_f86c9, Cond.initialized RJ9, Cond.code yJ9_floorDiv_f86c9 cJ9_floorDiv_f86c9 6 (some .long), Cond.methodLink RX3 215 yX3_longQuotient, Cond.instanceMethod yX3_longQuotient, Cond.selects RX3 yX3_longQuotient yX3_longQuotient, Cond.code yX3_longQuotient cX3_longQuotient 13 (some .long), Cond.static yX2_isAbove, Cond.code yX2_isAbove cX2_isAbove 4 (some .boolean), Cond.constantLong RX2 9 (-9223372036854775808), Cond.methodLink RX3 162 yX3_writeX, Cond.instanceMethod yX3_writeX, Cond.selects RX3 yX3_writeX yX3_writeX, Cond.code yX3_writeX cX3_writeX 5 none, Cond.constantLong RX3 197 (37), Cond.methodLink RX3 165 yX3_sumOrDifference, Cond.instanceMethod yX3_sumOrDifference, Cond.selects RX3 yX3_sumOrDifference yX3_sumOrDifference, Cond.code yX3_sumOrDifference cX3_sumOrDifference 6 (some .long)]
def wsX3_doNext_r6 : List Cond := [Cond.methodLink RX3 232 yX3_checkedSum, Cond.instanceMethod yX3_checkedSum, Cond.selects RX3 yX3_checkedSum yX3_checkedSum, Cond.code yX3_checkedSum cX3_checkedSum 7 (some .long), Cond.methodLink RX3 235 yX3_checkedDifference, Cond.instanceMethod yX3_checkedDifference, Cond.selects RX3 yX3_checkedDifference yX3_checkedDifference, Cond.code yX3_checkedDifference cX3_checkedDifference 7 (some .long), Cond.methodLink RX3 168 yX3_comparedOrShifted, Cond.instanceMethod yX3_comparedOrShifted, Cond.selects RX3 yX3_comparedOrShifted yX3_comparedOrShifted, Cond.code yX3_comparedOrShifted cX3_comparedOrShifted 6 (some .long), Cond.methodLink RX3 238 yX3_checkedShift, Cond.instanceMethod yX3_checkedShift, Cond.selects RX3 yX3_checkedShift yX3_checkedShift, Cond.code yX3_checkedShift cX3_checkedShift 7 (some .long), Cond.static yX2_shiftLeft, Cond.code yX2_shiftLeft cX2_shiftLeft 4 (some .long), Cond.methodLink RX2 21 yX2_isWholeShift, Cond.static yX2_isWholeShift, Cond.code yX2_isWholeShift cX2_isWholeShift 2 (some .boolean), Cond.constantLong RX2 19 (64), Cond.static yX2_shiftRight, Cond.code yX2_shiftRight cX2_shiftRight 4 (some .long)]
def wsX3_doNext_r7 : List Cond := [Cond.static yX2_shiftRightUnsigned, Cond.code yX2_shiftRightUnsigned cX2_shiftRightUnsigned 4 (some .long), Cond.methodLink RX3 171 yX3_branch, Cond.instanceMethod yX3_branch, Cond.selects RX3 yX3_branch yX3_branch, Cond.code yX3_branch cX3_branch 7 none, Cond.constantLong RX3 254 (2), Cond.methodLink RX3 250 yX3_holds, Cond.static yX3_holds, Cond.code yX3_holds cX3_holds 3 (some .boolean), Cond.methodLink RX3 256 yX3_relative, Cond.static yX3_relative, Cond.code yX3_relative cX3_relative 4 (some .long), Cond.constant RX3 263 (65536), Cond.methodLink RX3 260 yX3_wydeYZ, Cond.static yX3_wydeYZ, Cond.code yX3_wydeYZ cX3_wydeYZ 1 (some .int), Cond.constant RX3 108 (65535), Cond.methodLink RX3 174 yX3_choose, Cond.instanceMethod yX3_choose, Cond.selects RX3 yX3_choose yX3_choose, Cond.code yX3_choose cX3_choose 7 none, Cond.methodLink RX3 177 yX3_loadOrGo, Cond.instanceMethod yX3_loadOrGo]
def wsX3_doNext_r8 : List Cond := [Cond.selects RX3 yX3_loadOrGo yX3_loadOrGo, Cond.code yX3_loadOrGo cX3_loadOrGo 9 none, Cond.constantLong RX3 264 (-4), Cond.methodLink RX3 266 yX3_sizeOf, Cond.static yX3_sizeOf, Cond.code yX3_sizeOf cX3_sizeOf 1 (some .int), Cond.methodLink RX3 269 yX3_isUnsigned, Cond.static yX3_isUnsigned, Cond.code yX3_isUnsigned cX3_isUnsigned 1 (some .boolean), Cond.static yX2_signed, Cond.code yX2_signed cX2_signed 4 (some .long), Cond.methodLink RX3 180 yX3_storeX, Cond.instanceMethod yX3_storeX, Cond.selects RX3 yX3_storeX yX3_storeX, Cond.code yX3_storeX cX3_storeX 7 none, Cond.instanceMethod yX0_store, Cond.selects RX0 yX0_store yX0_store, Cond.code yX0_store cX0_store 9 none, Cond.static yX2_bitwise, Cond.code yX2_bitwise cX2_bitwise 5 (some .long), Cond.constantLong RX2 25 (-1), Cond.methodLink RX3 188 yX3_bytewise, Cond.instanceMethod yX3_bytewise, Cond.selects RX3 yX3_bytewise yX3_bytewise]
def wsX3_doNext_r9 : List Cond := [Cond.code yX3_bytewise cX3_bytewise 6 (some .long), Cond.static yX2_differences, Cond.code yX2_differences cX2_differences 14 (some .long), Cond.methodLink RX2 27 yX2_isAbove, Cond.methodLink RX3 279 yJ13_bitCount_95d88, Cond.static yJ13_bitCount_95d88, Cond.initialized RJ13, Cond.code yJ13_bitCount_95d88 cJ13_bitCount_95d88 2 (some .int), Cond.constantLong RJ13 314 (6148914691236517205), Cond.constantLong RJ13 316 (3689348814741910323), Cond.constantLong RJ13 318 (1085102592571150095), Cond.static yX2_matrixProduct, Cond.code yX2_matrixProduct cX2_matrixProduct 12 (some .long), Cond.constantLong RX2 31 (72340172838076673), Cond.constantLong RX2 33 (255), Cond.methodLink RX3 191 yX3_withWyde, Cond.instanceMethod yX3_withWyde, Cond.selects RX3 yX3_withWyde yX3_withWyde, Cond.code yX3_withWyde cX3_withWyde 7 (some .long), Cond.methodLink RX3 194 yX3_performRest, Cond.instanceMethod yX3_performRest, Cond.selects RX3 yX3_performRest yX3_performRest, Cond.code yX3_performRest cX3_performRest 7 none, Cond.constant RX3 289 (16777215)]
def wsX3_doNext_r10 : List Cond := [Cond.constant RX3 290 (16777216)]
def wsX3_doNext : List Cond := .code yX3_doNext cX3_doNext 7 (some .int) :: ((wsX3_doNext_r1 ++ (wsX3_doNext_r2 ++ (wsX3_doNext_r3 ++ (wsX3_doNext_r4 ++ (wsX3_doNext_r5 ++ (wsX3_doNext_r6 ++ (wsX3_doNext_r7 ++ (wsX3_doNext_r8 ++ (wsX3_doNext_r9 ++ wsX3_doNext_r10))))))))) ++ wsX30 ++ wsX00)
def wsX3_go_r1 : List Cond := [Cond.classLink RX3 68 "java/lang/IllegalArgumentException", Cond.initialized "java/lang/IllegalArgumentException", Cond.fieldLink RX3 73 "MixBench" "pc" "J", Cond.methodLink RX3 77 yX3_doNext, Cond.instanceMethod yX3_doNext, Cond.selects RX3 yX3_doNext yX3_doNext, Cond.initialized RX3, Cond.code yX3_doNext cX3_doNext 7 (some .int), Cond.fieldLink RX3 26 "MixBench" "memory" "LMixBench$Memory;", Cond.fieldLink RX3 9 "MixBench" "registers" "[J", Cond.methodLink RX3 37 yX3_isBeyond, Cond.static yX3_isBeyond, Cond.code yX3_isBeyond cX3_isBeyond 2 (some .boolean), Cond.constantLong RX3 106 (16384), Cond.instanceMethod yX0_load, Cond.initialized RX0, Cond.selects RX0 yX0_load yX0_load, Cond.code yX0_load cX0_load 4 (some .long), Cond.fieldLink RX0 9 "MixBench$Memory" "octas" "[J", Cond.methodLink RX0 17 yX0_octaOf, Cond.static yX0_octaOf, Cond.code yX0_octaOf cX0_octaOf 2 (some .int), Cond.methodLink RX0 21 yX0_shiftOf, Cond.static yX0_shiftOf]
def wsX3_go_r2 : List Cond := [Cond.code yX0_shiftOf cX0_shiftOf 4 (some .int), Cond.methodLink RX0 25 yX0_maskOf, Cond.static yX0_maskOf, Cond.code yX0_maskOf cX0_maskOf 1 (some .long), Cond.constantLong RX0 15 (-1), Cond.methodLink RX3 109 yX3_followFetch, Cond.instanceMethod yX3_followFetch, Cond.selects RX3 yX3_followFetch yX3_followFetch, Cond.code yX3_followFetch cX3_followFetch 2 none, Cond.constantLong RX3 138 (31), Cond.fieldLink RX3 98 "MixBench" "trail" "J", Cond.methodLink RX3 117 yX3_byteY, Cond.static yX3_byteY, Cond.code yX3_byteY cX3_byteY 1 (some .int), Cond.methodLink RX3 140 yX3_byteZ, Cond.static yX3_byteZ, Cond.code yX3_byteZ cX3_byteZ 1 (some .int), Cond.methodLink RX3 143 yX3_byteX, Cond.static yX3_byteX, Cond.code yX3_byteX cX3_byteX 1 (some .int), Cond.methodLink RX3 113 yX3_isLegal, Cond.static yX3_isLegal, Cond.code yX3_isLegal cX3_isLegal 2 (some .boolean), Cond.methodLink RX3 124 yX3_opOf]
def wsX3_go_r3 : List Cond := [Cond.static yX3_opOf, Cond.code yX3_opOf cX3_opOf 1 (some .int), Cond.methodLink RX3 120 yX3_operandZ, Cond.instanceMethod yX3_operandZ, Cond.selects RX3 yX3_operandZ yX3_operandZ, Cond.code yX3_operandZ cX3_operandZ 4 (some .long), Cond.methodLink RX3 127 yX3_isLoadOrStore, Cond.static yX3_isLoadOrStore, Cond.code yX3_isLoadOrStore cX3_isLoadOrStore 1 (some .boolean), Cond.methodLink RX3 146 yX3_isGo, Cond.static yX3_isGo, Cond.code yX3_isGo cX3_isGo 1 (some .boolean), Cond.methodLink RX3 130 yX3_bill, Cond.instanceMethod yX3_bill, Cond.selects RX3 yX3_bill yX3_bill, Cond.code yX3_bill cX3_bill 3 none, Cond.fieldLink RX3 16 "MixBench" "tallies" "[J", Cond.fieldLink RX3 101 "MixBench" "lastTally" "J", Cond.fieldLink RX3 87 "MixBench" "oops" "J", Cond.fieldLink RX3 95 "MixBench" "mems" "J", Cond.methodLink RX3 149 yX3_leastOops, Cond.static yX3_leastOops, Cond.code yX3_leastOops cX3_leastOops 1 (some .int), Cond.methodLink RX3 134 yX3_perform]
def wsX3_go_r4 : List Cond := [Cond.instanceMethod yX3_perform, Cond.selects RX3 yX3_perform yX3_perform, Cond.code yX3_perform cX3_perform 9 none, Cond.constantLong RX3 152 (4), Cond.methodLink RX3 154 yX3_trap, Cond.instanceMethod yX3_trap, Cond.selects RX3 yX3_trap yX3_trap, Cond.code yX3_trap cX3_trap 4 none, Cond.fieldLink RX3 90 "MixBench" "outputLength" "I", Cond.fieldLink RX3 19 "MixBench" "outputBytes" "[B", Cond.methodLink RX3 158 yX3_productOrQuotient, Cond.instanceMethod yX3_productOrQuotient, Cond.selects RX3 yX3_productOrQuotient yX3_productOrQuotient, Cond.code yX3_productOrQuotient cX3_productOrQuotient 6 (some .long), Cond.constantLong RX3 199 (64), Cond.fieldLink RX3 13 "MixBench" "specials" "[J", Cond.static yX2_highOfSignedProduct, Cond.initialized RX2, Cond.code yX2_highOfSignedProduct cX2_highOfSignedProduct 4 (some .long), Cond.methodLink RX2 13 yX2_highOfProduct, Cond.static yX2_highOfProduct, Cond.code yX2_highOfProduct cX2_highOfProduct 16 (some .long), Cond.constantLong RX2 11 (4294967295), Cond.methodLink RX3 205 yX3_raise]
def wsX3_go_r5 : List Cond := [Cond.instanceMethod yX3_raise, Cond.selects RX3 yX3_raise yX3_raise, Cond.code yX3_raise cX3_raise 4 none, Cond.methodLink RX3 212 yX3_quotient, Cond.instanceMethod yX3_quotient, Cond.selects RX3 yX3_quotient yX3_quotient, Cond.code yX3_quotient cX3_quotient 7 (some .long), Cond.constantLong RX3 219 (128), Cond.constantLong RX3 221 (-9223372036854775808), Cond.constantLong RX3 104 (-1), Cond.methodLink RX3 223 yJ9_floorDiv_f86c9, Cond.static yJ9_floorDiv_f86c9, Cond.initialized RJ9, Cond.code yJ9_floorDiv_f86c9 cJ9_floorDiv_f86c9 6 (some .long), Cond.methodLink RX3 215 yX3_longQuotient, Cond.instanceMethod yX3_longQuotient, Cond.selects RX3 yX3_longQuotient yX3_longQuotient, Cond.code yX3_longQuotient cX3_longQuotient 13 (some .long), Cond.static yX2_isAbove, Cond.code yX2_isAbove cX2_isAbove 4 (some .boolean), Cond.constantLong RX2 9 (-9223372036854775808), Cond.methodLink RX3 162 yX3_writeX, Cond.instanceMethod yX3_writeX, Cond.selects RX3 yX3_writeX yX3_writeX]
def wsX3_go_r6 : List Cond := [Cond.code yX3_writeX cX3_writeX 5 none, Cond.constantLong RX3 197 (37), Cond.methodLink RX3 165 yX3_sumOrDifference, Cond.instanceMethod yX3_sumOrDifference, Cond.selects RX3 yX3_sumOrDifference yX3_sumOrDifference, Cond.code yX3_sumOrDifference cX3_sumOrDifference 6 (some .long), Cond.methodLink RX3 232 yX3_checkedSum, Cond.instanceMethod yX3_checkedSum, Cond.selects RX3 yX3_checkedSum yX3_checkedSum, Cond.code yX3_checkedSum cX3_checkedSum 7 (some .long), Cond.methodLink RX3 235 yX3_checkedDifference, Cond.instanceMethod yX3_checkedDifference, Cond.selects RX3 yX3_checkedDifference yX3_checkedDifference, Cond.code yX3_checkedDifference cX3_checkedDifference 7 (some .long), Cond.methodLink RX3 168 yX3_comparedOrShifted, Cond.instanceMethod yX3_comparedOrShifted, Cond.selects RX3 yX3_comparedOrShifted yX3_comparedOrShifted, Cond.code yX3_comparedOrShifted cX3_comparedOrShifted 6 (some .long), Cond.methodLink RX3 238 yX3_checkedShift, Cond.instanceMethod yX3_checkedShift, Cond.selects RX3 yX3_checkedShift yX3_checkedShift, Cond.code yX3_checkedShift cX3_checkedShift 7 (some .long), Cond.static yX2_shiftLeft, Cond.code yX2_shiftLeft cX2_shiftLeft 4 (some .long)]
def wsX3_go_r7 : List Cond := [Cond.methodLink RX2 21 yX2_isWholeShift, Cond.static yX2_isWholeShift, Cond.code yX2_isWholeShift cX2_isWholeShift 2 (some .boolean), Cond.constantLong RX2 19 (64), Cond.static yX2_shiftRight, Cond.code yX2_shiftRight cX2_shiftRight 4 (some .long), Cond.static yX2_shiftRightUnsigned, Cond.code yX2_shiftRightUnsigned cX2_shiftRightUnsigned 4 (some .long), Cond.methodLink RX3 171 yX3_branch, Cond.instanceMethod yX3_branch, Cond.selects RX3 yX3_branch yX3_branch, Cond.code yX3_branch cX3_branch 7 none, Cond.constantLong RX3 254 (2), Cond.methodLink RX3 250 yX3_holds, Cond.static yX3_holds, Cond.code yX3_holds cX3_holds 3 (some .boolean), Cond.methodLink RX3 256 yX3_relative, Cond.static yX3_relative, Cond.code yX3_relative cX3_relative 4 (some .long), Cond.constant RX3 263 (65536), Cond.methodLink RX3 260 yX3_wydeYZ, Cond.static yX3_wydeYZ, Cond.code yX3_wydeYZ cX3_wydeYZ 1 (some .int), Cond.constant RX3 108 (65535)]
def wsX3_go_r8 : List Cond := [Cond.methodLink RX3 174 yX3_choose, Cond.instanceMethod yX3_choose, Cond.selects RX3 yX3_choose yX3_choose, Cond.code yX3_choose cX3_choose 7 none, Cond.methodLink RX3 177 yX3_loadOrGo, Cond.instanceMethod yX3_loadOrGo, Cond.selects RX3 yX3_loadOrGo yX3_loadOrGo, Cond.code yX3_loadOrGo cX3_loadOrGo 9 none, Cond.constantLong RX3 264 (-4), Cond.methodLink RX3 266 yX3_sizeOf, Cond.static yX3_sizeOf, Cond.code yX3_sizeOf cX3_sizeOf 1 (some .int), Cond.methodLink RX3 269 yX3_isUnsigned, Cond.static yX3_isUnsigned, Cond.code yX3_isUnsigned cX3_isUnsigned 1 (some .boolean), Cond.static yX2_signed, Cond.code yX2_signed cX2_signed 4 (some .long), Cond.methodLink RX3 180 yX3_storeX, Cond.instanceMethod yX3_storeX, Cond.selects RX3 yX3_storeX yX3_storeX, Cond.code yX3_storeX cX3_storeX 7 none, Cond.instanceMethod yX0_store, Cond.selects RX0 yX0_store yX0_store, Cond.code yX0_store cX0_store 9 none]
def wsX3_go_r9 : List Cond := [Cond.static yX2_bitwise, Cond.code yX2_bitwise cX2_bitwise 5 (some .long), Cond.constantLong RX2 25 (-1), Cond.methodLink RX3 188 yX3_bytewise, Cond.instanceMethod yX3_bytewise, Cond.selects RX3 yX3_bytewise yX3_bytewise, Cond.code yX3_bytewise cX3_bytewise 6 (some .long), Cond.static yX2_differences, Cond.code yX2_differences cX2_differences 14 (some .long), Cond.methodLink RX2 27 yX2_isAbove, Cond.methodLink RX3 279 yJ13_bitCount_95d88, Cond.static yJ13_bitCount_95d88, Cond.initialized RJ13, Cond.code yJ13_bitCount_95d88 cJ13_bitCount_95d88 2 (some .int), Cond.constantLong RJ13 314 (6148914691236517205), Cond.constantLong RJ13 316 (3689348814741910323), Cond.constantLong RJ13 318 (1085102592571150095), Cond.static yX2_matrixProduct, Cond.code yX2_matrixProduct cX2_matrixProduct 12 (some .long), Cond.constantLong RX2 31 (72340172838076673), Cond.constantLong RX2 33 (255), Cond.methodLink RX3 191 yX3_withWyde, Cond.instanceMethod yX3_withWyde, Cond.selects RX3 yX3_withWyde yX3_withWyde]
def wsX3_go_r10 : List Cond := [Cond.code yX3_withWyde cX3_withWyde 7 (some .long), Cond.methodLink RX3 194 yX3_performRest, Cond.instanceMethod yX3_performRest, Cond.selects RX3 yX3_performRest yX3_performRest, Cond.code yX3_performRest cX3_performRest 7 none, Cond.constant RX3 289 (16777215), Cond.constant RX3 290 (16777216)]
def wsX3_go : List Cond := .code yX3_go cX3_go 5 (some .int) :: ((wsX3_go_r1 ++ (wsX3_go_r2 ++ (wsX3_go_r3 ++ (wsX3_go_r4 ++ (wsX3_go_r5 ++ (wsX3_go_r6 ++ (wsX3_go_r7 ++ (wsX3_go_r8 ++ (wsX3_go_r9 ++ wsX3_go_r10))))))))) ++ wsX30 ++ wsX00 ++ (vx_atS RX3 72 "java/lang/IllegalArgumentException" ["java/lang/RuntimeException", "java/lang/Exception"]).filter goodWord)
def wsX3_mark : List Cond := .code yX3_mark cX3_mark 4 (some .long) :: ([.fieldLink RX3 9 "MixBench" "registers" "[J", .constantLong RX3 81 (-7046029254386353131)] ++ wsX30)
def wsX3_tally : List Cond := .code yX3_tally cX3_tally 2 (some .long) :: ([.classLink RX3 30 "java/util/NoSuchElementException", .initialized "java/util/NoSuchElementException", .fieldLink RX3 16 "MixBench" "tallies" "[J"] ++ wsX30 ++ (vx_atS RX3 34 "java/util/NoSuchElementException" ["java/lang/RuntimeException", "java/lang/Exception"]).filter goodWord)
def wsX3_spend : List Cond := .code yX3_spend cX3_spend 2 (some .long) :: ([.classLink RX3 68 "java/lang/IllegalArgumentException", .initialized "java/lang/IllegalArgumentException", .fieldLink RX3 87 "MixBench" "oops" "J"] ++ wsX30 ++ (vx_atS RX3 72 "java/lang/IllegalArgumentException" ["java/lang/RuntimeException", "java/lang/Exception"]).filter goodWord)
def wsX3_output : List Cond := .code yX3_output cX3_output 2 (some .int) :: ([.classLink RX3 41 "java/lang/IndexOutOfBoundsException", .initialized "java/lang/IndexOutOfBoundsException", .fieldLink RX3 90 "MixBench" "outputLength" "I", .fieldLink RX3 19 "MixBench" "outputBytes" "[B"] ++ wsX30 ++ (vx_atS RX3 45 "java/lang/IndexOutOfBoundsException" ["java/lang/RuntimeException", "java/lang/Exception"]).filter goodWord)
def wsX3_count : List Cond := .code yX3_count cX3_count 2 (some .long) :: ([.fieldLink RX3 73 "MixBench" "pc" "J", .fieldLink RX3 87 "MixBench" "oops" "J", .fieldLink RX3 95 "MixBench" "mems" "J", .fieldLink RX3 90 "MixBench" "outputLength" "I", .fieldLink RX3 54 "MixBench" "place" "I", .fieldLink RX3 98 "MixBench" "trail" "J", .fieldLink RX3 101 "MixBench" "lastTally" "J", .constantLong RX3 104 (-1)] ++ wsX30)
def wsX4_add : List Cond := .code yX4_add cX4_add 3 none :: ([.fieldLink RX4 26 "MixBenchModel" "names" "[I", .fieldLink RX4 149 "MixBenchModel" "count" "I", .fieldLink RX4 30 "MixBenchModel" "codes" "[I"] ++ wsX40)
def wsX4_pair : List Cond := .code yX4_pair cX4_pair 4 none :: ([.methodLink RX4 115 yX4_add, .instanceMethod yX4_add, .selects RX4 yX4_add yX4_add, .initialized RX4, .code yX4_add cX4_add 3 none, .fieldLink RX4 26 "MixBenchModel" "names" "[I", .fieldLink RX4 149 "MixBenchModel" "count" "I", .fieldLink RX4 30 "MixBenchModel" "codes" "[I"] ++ wsX40)
def wsX4_numbers : List Cond := .code yX4_numbers cX4_numbers 1 none :: ([.constant RX4 52 (271533), .constant RX4 53 (85908), .constant RX4 54 (389361), .constant RX4 55 (2148492), .constant RX4 56 (9057225), .constant RX4 57 (7994343), .constant RX4 58 (4274256), .constant RX4 59 (68979), .constant RX4 60 (279417), .methodLink RX4 48 yX4_pair, .instanceMethod yX4_pair, .selects RX4 yX4_pair yX4_pair, .initialized RX4, .code yX4_pair cX4_pair 4 none, .methodLink RX4 115 yX4_add, .instanceMethod yX4_add, .selects RX4 yX4_add yX4_add, .code yX4_add cX4_add 3 none, .fieldLink RX4 26 "MixBenchModel" "names" "[I", .fieldLink RX4 149 "MixBenchModel" "count" "I", .fieldLink RX4 30 "MixBenchModel" "codes" "[I"] ++ wsX40)
def wsX4_conditions_r1 : List Cond := [Cond.constant RX4 61 (316795), Cond.constant RX4 62 (316778), Cond.constant RX4 63 (316790), Cond.constant RX4 64 (316780), Cond.constant RX4 65 (316543), Cond.constant RX4 66 (316730), Cond.constant RX4 67 (316538), Cond.constant RX4 68 (316595), Cond.constant RX4 69 (316580), Cond.constant RX4 70 (316769), Cond.constant RX4 71 (316715), Cond.constant RX4 72 (73309), Cond.constant RX4 73 (73292), Cond.constant RX4 74 (73304), Cond.constant RX4 75 (73294), Cond.constant RX4 76 (73057), Cond.constant RX4 77 (73244), Cond.constant RX4 78 (73052), Cond.constant RX4 79 (73109), Cond.constant RX4 80 (73094), Cond.constant RX4 81 (73283), Cond.constant RX4 82 (73229), Cond.constant RX4 83 (526018), Cond.constant RX4 84 (526001)]
def wsX4_conditions_r2 : List Cond := [Cond.constant RX4 85 (526013), Cond.constant RX4 86 (526003), Cond.constant RX4 87 (525766), Cond.constant RX4 88 (525953), Cond.constant RX4 89 (525761), Cond.constant RX4 90 (525818), Cond.constant RX4 91 (525803), Cond.constant RX4 92 (525992), Cond.constant RX4 93 (525938), Cond.methodLink RX4 48 yX4_pair, Cond.instanceMethod yX4_pair, Cond.selects RX4 yX4_pair yX4_pair, Cond.initialized RX4, Cond.code yX4_pair cX4_pair 4 none, Cond.methodLink RX4 115 yX4_add, Cond.instanceMethod yX4_add, Cond.selects RX4 yX4_add yX4_add, Cond.code yX4_add cX4_add 3 none, Cond.fieldLink RX4 26 "MixBenchModel" "names" "[I", Cond.fieldLink RX4 149 "MixBenchModel" "count" "I", Cond.fieldLink RX4 30 "MixBenchModel" "codes" "[I"]
def wsX4_conditions : List Cond := .code yX4_conditions cX4_conditions 1 none :: ((wsX4_conditions_r1 ++ wsX4_conditions_r2) ++ wsX40)
def wsX4_accesses : List Cond := .code yX4_accesses cX4_accesses 1 none :: ([.constant RX4 94 (239187), .constant RX4 95 (239754), .constant RX4 96 (239673), .constant RX4 97 (239538), .constant RX4 98 (239348), .constant RX4 99 (212506), .constant RX4 100 (388632), .constant RX4 101 (389199), .constant RX4 102 (389118), .constant RX4 103 (388983), .constant RX4 104 (388793), .constant RX4 105 (388653), .methodLink RX4 48 yX4_pair, .instanceMethod yX4_pair, .selects RX4 yX4_pair yX4_pair, .initialized RX4, .code yX4_pair cX4_pair 4 none, .methodLink RX4 115 yX4_add, .instanceMethod yX4_add, .selects RX4 yX4_add yX4_add, .code yX4_add cX4_add 3 none, .fieldLink RX4 26 "MixBenchModel" "names" "[I", .fieldLink RX4 149 "MixBenchModel" "count" "I", .fieldLink RX4 30 "MixBenchModel" "codes" "[I"] ++ wsX40)
def wsX4_bitNames : List Cond := .code yX4_bitNames cX4_bitNames 1 none :: ([.constant RX4 106 (276673), .constant RX4 107 (293481), .constant RX4 108 (42531), .constant RX4 109 (455874), .constant RX4 110 (396825), .constant RX4 111 (298410), .constant RX4 112 (374818), .constant RX4 113 (273798), .methodLink RX4 48 yX4_pair, .instanceMethod yX4_pair, .selects RX4 yX4_pair yX4_pair, .initialized RX4, .code yX4_pair cX4_pair 4 none, .methodLink RX4 115 yX4_add, .instanceMethod yX4_add, .selects RX4 yX4_add yX4_add, .code yX4_add cX4_add 3 none, .fieldLink RX4 26 "MixBenchModel" "names" "[I", .fieldLink RX4 149 "MixBenchModel" "count" "I", .fieldLink RX4 30 "MixBenchModel" "codes" "[I"] ++ wsX40)
def wsX4_others_r1 : List Cond := [Cond.constant RX4 114 (378170), Cond.constant RX4 119 (10210733), Cond.constant RX4 120 (10210737), Cond.constant RX4 121 (378174), Cond.constant RX4 122 (187442), Cond.constant RX4 123 (5061077), Cond.constant RX4 124 (5061081), Cond.constant RX4 125 (187446), Cond.constant RX4 126 (308726), Cond.constant RX4 127 (308730), Cond.constant RX4 128 (810305), Cond.constant RX4 129 (21878378), Cond.constant RX4 130 (21878382), Cond.constant RX4 131 (810309), Cond.constant RX4 132 (40187), Cond.constant RX4 133 (141967), Cond.constant RX4 134 (391432), Cond.constant RX4 135 (406825), Cond.constant RX4 136 (158537), Cond.constant RX4 137 (243116), Cond.constant RX4 138 (243120), Cond.constant RX4 139 (324262), Cond.constant RX4 140 (7096672), Cond.constant RX4 141 (10815598)]
def wsX4_others_r2 : List Cond := [Cond.constant RX4 142 (350345), Cond.constant RX4 143 (70351), Cond.constant RX4 144 (380154), Cond.constant RX4 145 (380316), Cond.constant RX4 146 (267413), Cond.constant RX4 147 (46486), Cond.constant RX4 148 (321581), Cond.methodLink RX4 115 yX4_add, Cond.instanceMethod yX4_add, Cond.selects RX4 yX4_add yX4_add, Cond.initialized RX4, Cond.code yX4_add cX4_add 3 none, Cond.fieldLink RX4 26 "MixBenchModel" "names" "[I", Cond.fieldLink RX4 149 "MixBenchModel" "count" "I", Cond.fieldLink RX4 30 "MixBenchModel" "codes" "[I", Cond.methodLink RX4 48 yX4_pair, Cond.instanceMethod yX4_pair, Cond.selects RX4 yX4_pair yX4_pair, Cond.code yX4_pair cX4_pair 4 none]
def wsX4_others : List Cond := .code yX4_others cX4_others 1 none :: ((wsX4_others_r1 ++ wsX4_others_r2) ++ wsX40)
def wsX4_init_r1 : List Cond := [Cond.methodLink RX4 1 objectInit, Cond.instanceMethod objectInit, Cond.code objectInit ⟨#[0xb1]⟩ 1 none, Cond.arrayClass .long, Cond.fieldLink RX4 7 "MixBenchModel" "g" "[J", Cond.fieldLink RX4 13 "MixBenchModel" "special" "[J", Cond.fieldLink RX4 16 "MixBenchModel" "tallies" "[J", Cond.arrayClass .byte, Cond.fieldLink RX4 19 "MixBenchModel" "memory" "[B", Cond.fieldLink RX4 23 "MixBenchModel" "output" "[B", Cond.arrayClass .int, Cond.fieldLink RX4 26 "MixBenchModel" "names" "[I", Cond.fieldLink RX4 30 "MixBenchModel" "codes" "[I", Cond.methodLink RX4 33 yX4_numbers, Cond.instanceMethod yX4_numbers, Cond.selects RX4 yX4_numbers yX4_numbers, Cond.initialized RX4, Cond.code yX4_numbers cX4_numbers 1 none, Cond.constant RX4 52 (271533), Cond.constant RX4 53 (85908), Cond.constant RX4 54 (389361), Cond.constant RX4 55 (2148492), Cond.constant RX4 56 (9057225), Cond.constant RX4 57 (7994343)]
def wsX4_init_r2 : List Cond := [Cond.constant RX4 58 (4274256), Cond.constant RX4 59 (68979), Cond.constant RX4 60 (279417), Cond.methodLink RX4 48 yX4_pair, Cond.instanceMethod yX4_pair, Cond.selects RX4 yX4_pair yX4_pair, Cond.code yX4_pair cX4_pair 4 none, Cond.methodLink RX4 115 yX4_add, Cond.instanceMethod yX4_add, Cond.selects RX4 yX4_add yX4_add, Cond.code yX4_add cX4_add 3 none, Cond.fieldLink RX4 149 "MixBenchModel" "count" "I", Cond.methodLink RX4 36 yX4_conditions, Cond.instanceMethod yX4_conditions, Cond.selects RX4 yX4_conditions yX4_conditions, Cond.code yX4_conditions cX4_conditions 1 none, Cond.constant RX4 61 (316795), Cond.constant RX4 62 (316778), Cond.constant RX4 63 (316790), Cond.constant RX4 64 (316780), Cond.constant RX4 65 (316543), Cond.constant RX4 66 (316730), Cond.constant RX4 67 (316538), Cond.constant RX4 68 (316595)]
def wsX4_init_r3 : List Cond := [Cond.constant RX4 69 (316580), Cond.constant RX4 70 (316769), Cond.constant RX4 71 (316715), Cond.constant RX4 72 (73309), Cond.constant RX4 73 (73292), Cond.constant RX4 74 (73304), Cond.constant RX4 75 (73294), Cond.constant RX4 76 (73057), Cond.constant RX4 77 (73244), Cond.constant RX4 78 (73052), Cond.constant RX4 79 (73109), Cond.constant RX4 80 (73094), Cond.constant RX4 81 (73283), Cond.constant RX4 82 (73229), Cond.constant RX4 83 (526018), Cond.constant RX4 84 (526001), Cond.constant RX4 85 (526013), Cond.constant RX4 86 (526003), Cond.constant RX4 87 (525766), Cond.constant RX4 88 (525953), Cond.constant RX4 89 (525761), Cond.constant RX4 90 (525818), Cond.constant RX4 91 (525803), Cond.constant RX4 92 (525992)]
def wsX4_init_r4 : List Cond := [Cond.constant RX4 93 (525938), Cond.methodLink RX4 39 yX4_accesses, Cond.instanceMethod yX4_accesses, Cond.selects RX4 yX4_accesses yX4_accesses, Cond.code yX4_accesses cX4_accesses 1 none, Cond.constant RX4 94 (239187), Cond.constant RX4 95 (239754), Cond.constant RX4 96 (239673), Cond.constant RX4 97 (239538), Cond.constant RX4 98 (239348), Cond.constant RX4 99 (212506), Cond.constant RX4 100 (388632), Cond.constant RX4 101 (389199), Cond.constant RX4 102 (389118), Cond.constant RX4 103 (388983), Cond.constant RX4 104 (388793), Cond.constant RX4 105 (388653), Cond.methodLink RX4 42 yX4_bitNames, Cond.instanceMethod yX4_bitNames, Cond.selects RX4 yX4_bitNames yX4_bitNames, Cond.code yX4_bitNames cX4_bitNames 1 none, Cond.constant RX4 106 (276673), Cond.constant RX4 107 (293481), Cond.constant RX4 108 (42531)]
def wsX4_init_r5 : List Cond := [Cond.constant RX4 109 (455874), Cond.constant RX4 110 (396825), Cond.constant RX4 111 (298410), Cond.constant RX4 112 (374818), Cond.constant RX4 113 (273798), Cond.methodLink RX4 45 yX4_others, Cond.instanceMethod yX4_others, Cond.selects RX4 yX4_others yX4_others, Cond.code yX4_others cX4_others 1 none, Cond.constant RX4 114 (378170), Cond.constant RX4 119 (10210733), Cond.constant RX4 120 (10210737), Cond.constant RX4 121 (378174), Cond.constant RX4 122 (187442), Cond.constant RX4 123 (5061077), Cond.constant RX4 124 (5061081), Cond.constant RX4 125 (187446), Cond.constant RX4 126 (308726), Cond.constant RX4 127 (308730), Cond.constant RX4 128 (810305), Cond.constant RX4 129 (21878378), Cond.constant RX4 130 (21878382), Cond.constant RX4 131 (810309), Cond.constant RX4 132 (40187)]
def wsX4_init_r6 : List Cond := [Cond.constant RX4 133 (141967), Cond.constant RX4 134 (391432), Cond.constant RX4 135 (406825), Cond.constant RX4 136 (158537), Cond.constant RX4 137 (243116), Cond.constant RX4 138 (243120), Cond.constant RX4 139 (324262), Cond.constant RX4 140 (7096672), Cond.constant RX4 141 (10815598), Cond.constant RX4 142 (350345), Cond.constant RX4 143 (70351), Cond.constant RX4 144 (380154), Cond.constant RX4 145 (380316), Cond.constant RX4 146 (267413), Cond.constant RX4 147 (46486), Cond.constant RX4 148 (321581)]
def wsX4_init : List Cond := .code yX4_init cX4_init 1 none :: ((wsX4_init_r1 ++ (wsX4_init_r2 ++ (wsX4_init_r3 ++ (wsX4_init_r4 ++ (wsX4_init_r5 ++ wsX4_init_r6))))) ++ wsX40)
def wsX4_thrown : List Cond := .code yX4_thrown cX4_thrown 1 (some .int) :: ([.fieldLink RX4 153 "MixBenchModel" "thrown" "I"] ++ wsX40)
def wsX4_fail : List Cond := .code yX4_fail cX4_fail 2 (some .int) :: ([.fieldLink RX4 153 "MixBenchModel" "thrown" "I"] ++ wsX40)
def wsX4_beyond : List Cond := .code yX4_beyond cX4_beyond 2 (some .boolean) :: ([.constantLong RX4 156 (16383)])
def wsX4_m : List Cond := .code yX4_m cX4_m 8 (some .long) :: ([.fieldLink RX4 19 "MixBenchModel" "memory" "[B"] ++ wsX40)
def wsX4_m_ : List Cond := .code yX4_m_ cX4_m_ 8 none :: ([.fieldLink RX4 19 "MixBenchModel" "memory" "[B"] ++ wsX40)
def wsX4_signed : List Cond := .code yX4_signed cX4_signed 3 (some .long) :: ([])
def wsX4_over : List Cond := .code yX4_over cX4_over 2 none :: ([.fieldLink RX4 13 "MixBenchModel" "special" "[J", .constantLong RX4 158 (64)] ++ wsX40)
def wsX4_above : List Cond := .code yX4_above cX4_above 4 (some .boolean) :: ([.constantLong RX4 160 (-9223372036854775808)])
def wsX4_holds : List Cond := .code yX4_holds cX4_holds 3 (some .boolean) :: ([])
def wsX4_branch : List Cond := .code yX4_branch cX4_branch 5 (some .int) :: ([.fieldLink RX4 7 "MixBenchModel" "g" "[J", .fieldLink RX4 215 "MixBenchModel" "late" "Z", .fieldLink RX4 162 "MixBenchModel" "pc" "J", .constantLong RX4 223 (4), .constantLong RX4 225 (-4), .constant RX4 227 (65536), .methodLink RX4 219 yX4_holds, .static yX4_holds, .initialized RX4, .code yX4_holds cX4_holds 3 (some .boolean)] ++ wsX40)
def wsX4_trap : List Cond := .code yX4_trap cX4_trap 4 (some .int) :: ([.fieldLink RX4 215 "MixBenchModel" "late" "Z", .fieldLink RX4 277 "MixBenchModel" "outputs" "I", .fieldLink RX4 23 "MixBenchModel" "output" "[B", .fieldLink RX4 7 "MixBenchModel" "g" "[J", .fieldLink RX4 162 "MixBenchModel" "pc" "J", .constantLong RX4 223 (4)] ++ wsX40)
def wsX4_number : List Cond := .code yX4_number cX4_number 3 (some .long) :: ([.fieldLink RX4 7 "MixBenchModel" "g" "[J"] ++ wsX40)
def wsX4_upper : List Cond := .code yX4_upper cX4_upper 16 (some .long) :: ([.constantLong RX4 273 (4294967295)])
def wsX4_quotient : List Cond := .code yX4_quotient cX4_quotient 7 (some .long) :: ([.fieldLink RX4 13 "MixBenchModel" "special" "[J", .constantLong RX4 275 (128), .constantLong RX4 160 (-9223372036854775808), .constantLong RX4 261 (-1), .methodLink RX4 245 yX4_over, .instanceMethod yX4_over, .selects RX4 yX4_over yX4_over, .initialized RX4, .code yX4_over cX4_over 2 none, .constantLong RX4 158 (64)] ++ wsX40)
def wsX4_quotientOf : List Cond := .code yX4_quotientOf cX4_quotientOf 11 (some .long) :: ([.fieldLink RX4 13 "MixBenchModel" "special" "[J", .methodLink RX4 263 yX4_above, .static yX4_above, .initialized RX4, .code yX4_above cX4_above 4 (some .boolean), .constantLong RX4 160 (-9223372036854775808)] ++ wsX40)
def wsX4_on : List Cond := .code yX4_on cX4_on 1 (some .int) :: ([.fieldLink RX4 162 "MixBenchModel" "pc" "J", .constantLong RX4 223 (4), .fieldLink RX4 215 "MixBenchModel" "late" "Z"] ++ wsX40)
def wsX4_done : List Cond := .code yX4_done cX4_done 4 (some .int) :: ([.constantLong RX4 228 (37), .fieldLink RX4 176 "MixBenchModel" "trail" "J", .fieldLink RX4 7 "MixBenchModel" "g" "[J", .methodLink RX4 230 yX4_on, .instanceMethod yX4_on, .selects RX4 yX4_on yX4_on, .initialized RX4, .code yX4_on cX4_on 1 (some .int), .fieldLink RX4 162 "MixBenchModel" "pc" "J", .constantLong RX4 223 (4), .fieldLink RX4 215 "MixBenchModel" "late" "Z"] ++ wsX40)
def wsX4_low_r1 : List Cond := [Cond.fieldLink RX4 7 "MixBenchModel" "g" "[J", Cond.fieldLink RX4 13 "MixBenchModel" "special" "[J", Cond.constantLong RX4 255 (2), Cond.constantLong RX4 223 (4), Cond.constantLong RX4 257 (8), Cond.constantLong RX4 259 (16), Cond.constantLong RX4 261 (-1), Cond.constantLong RX4 267 (63), Cond.methodLink RX4 234 yX4_trap, Cond.instanceMethod yX4_trap, Cond.selects RX4 yX4_trap yX4_trap, Cond.initialized RX4, Cond.code yX4_trap cX4_trap 4 (some .int), Cond.fieldLink RX4 215 "MixBenchModel" "late" "Z", Cond.fieldLink RX4 277 "MixBenchModel" "outputs" "I", Cond.fieldLink RX4 23 "MixBenchModel" "output" "[B", Cond.fieldLink RX4 162 "MixBenchModel" "pc" "J", Cond.methodLink RX4 237 yX4_number, Cond.instanceMethod yX4_number, Cond.selects RX4 yX4_number yX4_number, Cond.code yX4_number cX4_number 3 (some .long), Cond.methodLink RX4 241 yX4_upper, Cond.static yX4_upper, Cond.code yX4_upper cX4_upper 16 (some .long)]
def wsX4_low_r2 : List Cond := [Cond.constantLong RX4 273 (4294967295), Cond.methodLink RX4 245 yX4_over, Cond.instanceMethod yX4_over, Cond.selects RX4 yX4_over yX4_over, Cond.code yX4_over cX4_over 2 none, Cond.constantLong RX4 158 (64), Cond.methodLink RX4 249 yX4_quotient, Cond.instanceMethod yX4_quotient, Cond.selects RX4 yX4_quotient yX4_quotient, Cond.code yX4_quotient cX4_quotient 7 (some .long), Cond.constantLong RX4 275 (128), Cond.constantLong RX4 160 (-9223372036854775808), Cond.methodLink RX4 252 yX4_quotientOf, Cond.instanceMethod yX4_quotientOf, Cond.selects RX4 yX4_quotientOf yX4_quotientOf, Cond.code yX4_quotientOf cX4_quotientOf 11 (some .long), Cond.methodLink RX4 263 yX4_above, Cond.static yX4_above, Cond.code yX4_above cX4_above 4 (some .boolean), Cond.methodLink RX4 269 yX4_done, Cond.instanceMethod yX4_done, Cond.selects RX4 yX4_done yX4_done, Cond.code yX4_done cX4_done 4 (some .int), Cond.constantLong RX4 228 (37)]
def wsX4_low_r3 : List Cond := [Cond.fieldLink RX4 176 "MixBenchModel" "trail" "J", Cond.methodLink RX4 230 yX4_on, Cond.instanceMethod yX4_on, Cond.selects RX4 yX4_on yX4_on, Cond.code yX4_on cX4_on 1 (some .int)]
def wsX4_low : List Cond := .code yX4_low cX4_low 11 (some .int) :: ((wsX4_low_r1 ++ (wsX4_low_r2 ++ wsX4_low_r3)) ++ wsX40)
def wsX4_choose : List Cond := .code yX4_choose cX4_choose 6 (some .int) :: ([.fieldLink RX4 7 "MixBenchModel" "g" "[J", .methodLink RX4 219 yX4_holds, .static yX4_holds, .initialized RX4, .code yX4_holds cX4_holds 3 (some .boolean), .methodLink RX4 230 yX4_on, .instanceMethod yX4_on, .selects RX4 yX4_on yX4_on, .code yX4_on cX4_on 1 (some .int), .fieldLink RX4 162 "MixBenchModel" "pc" "J", .constantLong RX4 223 (4), .fieldLink RX4 215 "MixBenchModel" "late" "Z", .methodLink RX4 237 yX4_number, .instanceMethod yX4_number, .selects RX4 yX4_number yX4_number, .code yX4_number cX4_number 3 (some .long), .methodLink RX4 269 yX4_done, .instanceMethod yX4_done, .selects RX4 yX4_done yX4_done, .code yX4_done cX4_done 4 (some .int), .constantLong RX4 228 (37), .fieldLink RX4 176 "MixBenchModel" "trail" "J"] ++ wsX40)
def wsX4_access_r1 : List Cond := [Cond.fieldLink RX4 7 "MixBenchModel" "g" "[J", Cond.fieldLink RX4 162 "MixBenchModel" "pc" "J", Cond.constantLong RX4 223 (4), Cond.constantLong RX4 225 (-4), Cond.fieldLink RX4 280 "MixBenchModel" "mems" "J", Cond.methodLink RX4 237 yX4_number, Cond.instanceMethod yX4_number, Cond.selects RX4 yX4_number yX4_number, Cond.initialized RX4, Cond.code yX4_number cX4_number 3 (some .long), Cond.methodLink RX4 269 yX4_done, Cond.instanceMethod yX4_done, Cond.selects RX4 yX4_done yX4_done, Cond.code yX4_done cX4_done 4 (some .int), Cond.constantLong RX4 228 (37), Cond.fieldLink RX4 176 "MixBenchModel" "trail" "J", Cond.methodLink RX4 230 yX4_on, Cond.instanceMethod yX4_on, Cond.selects RX4 yX4_on yX4_on, Cond.code yX4_on cX4_on 1 (some .int), Cond.fieldLink RX4 215 "MixBenchModel" "late" "Z", Cond.methodLink RX4 166 yX4_beyond, Cond.static yX4_beyond, Cond.code yX4_beyond cX4_beyond 2 (some .boolean)]
def wsX4_access_r2 : List Cond := [Cond.constantLong RX4 156 (16383), Cond.methodLink RX4 170 yX4_m, Cond.instanceMethod yX4_m, Cond.selects RX4 yX4_m yX4_m, Cond.code yX4_m cX4_m 8 (some .long), Cond.fieldLink RX4 19 "MixBenchModel" "memory" "[B", Cond.methodLink RX4 283 yX4_signed, Cond.static yX4_signed, Cond.code yX4_signed cX4_signed 3 (some .long), Cond.methodLink RX4 245 yX4_over, Cond.instanceMethod yX4_over, Cond.selects RX4 yX4_over yX4_over, Cond.code yX4_over cX4_over 2 none, Cond.fieldLink RX4 13 "MixBenchModel" "special" "[J", Cond.constantLong RX4 158 (64), Cond.methodLink RX4 286 yX4_m_, Cond.instanceMethod yX4_m_, Cond.selects RX4 yX4_m_ yX4_m_, Cond.code yX4_m_ cX4_m_ 8 none]
def wsX4_access : List Cond := .code yX4_access cX4_access 13 (some .int) :: ((wsX4_access_r1 ++ wsX4_access_r2) ++ wsX40)
def wsX4_matrix : List Cond := .code yX4_matrix cX4_matrix 13 (some .long) :: ([.constantLong RX4 297 (255)])
def wsX4_differences : List Cond := .code yX4_differences cX4_differences 12 (some .long) :: ([.methodLink RX4 263 yX4_above, .static yX4_above, .initialized RX4, .code yX4_above cX4_above 4 (some .boolean), .constantLong RX4 160 (-9223372036854775808)])
def wsX4_bits_r1 : List Cond := [Cond.fieldLink RX4 7 "MixBenchModel" "g" "[J", Cond.constantLong RX4 261 (-1), Cond.fieldLink RX4 13 "MixBenchModel" "special" "[J", Cond.methodLink RX4 237 yX4_number, Cond.instanceMethod yX4_number, Cond.selects RX4 yX4_number yX4_number, Cond.initialized RX4, Cond.code yX4_number cX4_number 3 (some .long), Cond.methodLink RX4 289 yX4_matrix, Cond.static yX4_matrix, Cond.code yX4_matrix cX4_matrix 13 (some .long), Cond.constantLong RX4 297 (255), Cond.methodLink RX4 293 yX4_differences, Cond.static yX4_differences, Cond.code yX4_differences cX4_differences 12 (some .long), Cond.methodLink RX4 263 yX4_above, Cond.static yX4_above, Cond.code yX4_above cX4_above 4 (some .boolean), Cond.constantLong RX4 160 (-9223372036854775808), Cond.methodLink RX4 269 yX4_done, Cond.instanceMethod yX4_done, Cond.selects RX4 yX4_done yX4_done, Cond.code yX4_done cX4_done 4 (some .int), Cond.constantLong RX4 228 (37)]
def wsX4_bits_r2 : List Cond := [Cond.fieldLink RX4 176 "MixBenchModel" "trail" "J", Cond.methodLink RX4 230 yX4_on, Cond.instanceMethod yX4_on, Cond.selects RX4 yX4_on yX4_on, Cond.code yX4_on cX4_on 1 (some .int), Cond.fieldLink RX4 162 "MixBenchModel" "pc" "J", Cond.constantLong RX4 223 (4), Cond.fieldLink RX4 215 "MixBenchModel" "late" "Z"]
def wsX4_bits : List Cond := .code yX4_bits cX4_bits 12 (some .int) :: ((wsX4_bits_r1 ++ wsX4_bits_r2) ++ wsX40)
def wsX4_high_r1 : List Cond := [Cond.constant RX4 179 (65535), Cond.constant RX4 299 (16777215), Cond.fieldLink RX4 215 "MixBenchModel" "late" "Z", Cond.fieldLink RX4 7 "MixBenchModel" "g" "[J", Cond.constantLong RX4 261 (-1), Cond.fieldLink RX4 162 "MixBenchModel" "pc" "J", Cond.constantLong RX4 223 (4), Cond.constantLong RX4 300 (16777216), Cond.constantLong RX4 302 (65536), Cond.fieldLink RX4 13 "MixBenchModel" "special" "[J", Cond.methodLink RX4 269 yX4_done, Cond.instanceMethod yX4_done, Cond.selects RX4 yX4_done yX4_done, Cond.initialized RX4, Cond.code yX4_done cX4_done 4 (some .int), Cond.constantLong RX4 228 (37), Cond.fieldLink RX4 176 "MixBenchModel" "trail" "J", Cond.methodLink RX4 230 yX4_on, Cond.instanceMethod yX4_on, Cond.selects RX4 yX4_on yX4_on, Cond.code yX4_on cX4_on 1 (some .int), Cond.methodLink RX4 237 yX4_number, Cond.instanceMethod yX4_number, Cond.selects RX4 yX4_number yX4_number]
def wsX4_high_r2 : List Cond := [Cond.code yX4_number cX4_number 3 (some .long)]
def wsX4_high : List Cond := .code yX4_high cX4_high 12 (some .int) :: ((wsX4_high_r1 ++ wsX4_high_r2) ++ wsX40)
def wsX4_step_r1 : List Cond := [Cond.fieldLink RX4 162 "MixBenchModel" "pc" "J", Cond.constantLong RX4 174 (31), Cond.fieldLink RX4 176 "MixBenchModel" "trail" "J", Cond.fieldLink RX4 7 "MixBenchModel" "g" "[J", Cond.constant RX4 179 (65535), Cond.fieldLink RX4 16 "MixBenchModel" "tallies" "[J", Cond.fieldLink RX4 201 "MixBenchModel" "last" "J", Cond.fieldLink RX4 204 "MixBenchModel" "oops" "J", Cond.constantLong RX4 207 (10), Cond.constantLong RX4 209 (60), Cond.constantLong RX4 211 (3), Cond.constantLong RX4 213 (5), Cond.fieldLink RX4 215 "MixBenchModel" "late" "Z", Cond.methodLink RX4 166 yX4_beyond, Cond.static yX4_beyond, Cond.initialized RX4, Cond.code yX4_beyond cX4_beyond 2 (some .boolean), Cond.constantLong RX4 156 (16383), Cond.methodLink RX4 170 yX4_m, Cond.instanceMethod yX4_m, Cond.selects RX4 yX4_m yX4_m, Cond.code yX4_m cX4_m 8 (some .long), Cond.fieldLink RX4 19 "MixBenchModel" "memory" "[B", Cond.methodLink RX4 180 yX4_branch]
def wsX4_step_r2 : List Cond := [Cond.instanceMethod yX4_branch, Cond.selects RX4 yX4_branch yX4_branch, Cond.code yX4_branch cX4_branch 5 (some .int), Cond.constantLong RX4 223 (4), Cond.constantLong RX4 225 (-4), Cond.constant RX4 227 (65536), Cond.methodLink RX4 219 yX4_holds, Cond.static yX4_holds, Cond.code yX4_holds cX4_holds 3 (some .boolean), Cond.methodLink RX4 184 yX4_low, Cond.instanceMethod yX4_low, Cond.selects RX4 yX4_low yX4_low, Cond.code yX4_low cX4_low 11 (some .int), Cond.fieldLink RX4 13 "MixBenchModel" "special" "[J", Cond.constantLong RX4 255 (2), Cond.constantLong RX4 257 (8), Cond.constantLong RX4 259 (16), Cond.constantLong RX4 261 (-1), Cond.constantLong RX4 267 (63), Cond.methodLink RX4 234 yX4_trap, Cond.instanceMethod yX4_trap, Cond.selects RX4 yX4_trap yX4_trap, Cond.code yX4_trap cX4_trap 4 (some .int), Cond.fieldLink RX4 277 "MixBenchModel" "outputs" "I"]
def wsX4_step_r3 : List Cond := [Cond.fieldLink RX4 23 "MixBenchModel" "output" "[B", Cond.methodLink RX4 237 yX4_number, Cond.instanceMethod yX4_number, Cond.selects RX4 yX4_number yX4_number, Cond.code yX4_number cX4_number 3 (some .long), Cond.methodLink RX4 241 yX4_upper, Cond.static yX4_upper, Cond.code yX4_upper cX4_upper 16 (some .long), Cond.constantLong RX4 273 (4294967295), Cond.methodLink RX4 245 yX4_over, Cond.instanceMethod yX4_over, Cond.selects RX4 yX4_over yX4_over, Cond.code yX4_over cX4_over 2 none, Cond.constantLong RX4 158 (64), Cond.methodLink RX4 249 yX4_quotient, Cond.instanceMethod yX4_quotient, Cond.selects RX4 yX4_quotient yX4_quotient, Cond.code yX4_quotient cX4_quotient 7 (some .long), Cond.constantLong RX4 275 (128), Cond.constantLong RX4 160 (-9223372036854775808), Cond.methodLink RX4 252 yX4_quotientOf, Cond.instanceMethod yX4_quotientOf, Cond.selects RX4 yX4_quotientOf yX4_quotientOf, Cond.code yX4_quotientOf cX4_quotientOf 11 (some .long)]
def wsX4_step_r4 : List Cond := [Cond.methodLink RX4 263 yX4_above, Cond.static yX4_above, Cond.code yX4_above cX4_above 4 (some .boolean), Cond.methodLink RX4 269 yX4_done, Cond.instanceMethod yX4_done, Cond.selects RX4 yX4_done yX4_done, Cond.code yX4_done cX4_done 4 (some .int), Cond.constantLong RX4 228 (37), Cond.methodLink RX4 230 yX4_on, Cond.instanceMethod yX4_on, Cond.selects RX4 yX4_on yX4_on, Cond.code yX4_on cX4_on 1 (some .int), Cond.methodLink RX4 188 yX4_choose, Cond.instanceMethod yX4_choose, Cond.selects RX4 yX4_choose yX4_choose, Cond.code yX4_choose cX4_choose 6 (some .int), Cond.methodLink RX4 191 yX4_access, Cond.instanceMethod yX4_access, Cond.selects RX4 yX4_access yX4_access, Cond.code yX4_access cX4_access 13 (some .int), Cond.fieldLink RX4 280 "MixBenchModel" "mems" "J", Cond.methodLink RX4 283 yX4_signed, Cond.static yX4_signed, Cond.code yX4_signed cX4_signed 3 (some .long)]
def wsX4_step_r5 : List Cond := [Cond.methodLink RX4 286 yX4_m_, Cond.instanceMethod yX4_m_, Cond.selects RX4 yX4_m_ yX4_m_, Cond.code yX4_m_ cX4_m_ 8 none, Cond.methodLink RX4 194 yX4_bits, Cond.instanceMethod yX4_bits, Cond.selects RX4 yX4_bits yX4_bits, Cond.code yX4_bits cX4_bits 12 (some .int), Cond.methodLink RX4 289 yX4_matrix, Cond.static yX4_matrix, Cond.code yX4_matrix cX4_matrix 13 (some .long), Cond.constantLong RX4 297 (255), Cond.methodLink RX4 293 yX4_differences, Cond.static yX4_differences, Cond.code yX4_differences cX4_differences 12 (some .long), Cond.methodLink RX4 197 yX4_high, Cond.instanceMethod yX4_high, Cond.selects RX4 yX4_high yX4_high, Cond.code yX4_high cX4_high 12 (some .int), Cond.constant RX4 299 (16777215), Cond.constantLong RX4 300 (16777216), Cond.constantLong RX4 302 (65536)]
def wsX4_step : List Cond := .code yX4_step cX4_step 7 (some .int) :: ((wsX4_step_r1 ++ (wsX4_step_r2 ++ (wsX4_step_r3 ++ (wsX4_step_r4 ++ wsX4_step_r5)))) ++ wsX40)
def wsX4_set : List Cond := .code yX4_set cX4_set 6 (some .long) :: ([.fieldLink RX4 153 "MixBenchModel" "thrown" "I", .fieldLink RX4 7 "MixBenchModel" "g" "[J", .methodLink RX4 304 yX4_fail, .instanceMethod yX4_fail, .selects RX4 yX4_fail yX4_fail, .initialized RX4, .code yX4_fail cX4_fail 2 (some .int)] ++ wsX40)
def wsX4_get : List Cond := .code yX4_get cX4_get 2 (some .long) :: ([.fieldLink RX4 153 "MixBenchModel" "thrown" "I", .fieldLink RX4 7 "MixBenchModel" "g" "[J", .fieldLink RX4 13 "MixBenchModel" "special" "[J", .methodLink RX4 304 yX4_fail, .instanceMethod yX4_fail, .selects RX4 yX4_fail yX4_fail, .initialized RX4, .code yX4_fail cX4_fail 2 (some .int)] ++ wsX40)
def wsX4_poke : List Cond := .code yX4_poke cX4_poke 6 (some .long) :: ([.fieldLink RX4 153 "MixBenchModel" "thrown" "I", .methodLink RX4 166 yX4_beyond, .static yX4_beyond, .initialized RX4, .code yX4_beyond cX4_beyond 2 (some .boolean), .constantLong RX4 156 (16383), .methodLink RX4 304 yX4_fail, .instanceMethod yX4_fail, .selects RX4 yX4_fail yX4_fail, .code yX4_fail cX4_fail 2 (some .int), .methodLink RX4 170 yX4_m, .instanceMethod yX4_m, .selects RX4 yX4_m yX4_m, .code yX4_m cX4_m 8 (some .long), .fieldLink RX4 19 "MixBenchModel" "memory" "[B", .methodLink RX4 286 yX4_m_, .instanceMethod yX4_m_, .selects RX4 yX4_m_ yX4_m_, .code yX4_m_ cX4_m_ 8 none] ++ wsX40)
def wsX4_peek : List Cond := .code yX4_peek cX4_peek 2 (some .long) :: ([.fieldLink RX4 153 "MixBenchModel" "thrown" "I", .methodLink RX4 166 yX4_beyond, .static yX4_beyond, .initialized RX4, .code yX4_beyond cX4_beyond 2 (some .boolean), .constantLong RX4 156 (16383), .methodLink RX4 304 yX4_fail, .instanceMethod yX4_fail, .selects RX4 yX4_fail yX4_fail, .code yX4_fail cX4_fail 2 (some .int), .methodLink RX4 170 yX4_m, .instanceMethod yX4_m, .selects RX4 yX4_m yX4_m, .code yX4_m cX4_m 8 (some .long), .fieldLink RX4 19 "MixBenchModel" "memory" "[B"] ++ wsX40)
def wsX4_at : List Cond := .code yX4_at cX4_at 2 (some .int) :: ([.fieldLink RX4 153 "MixBenchModel" "thrown" "I", .fieldLink RX4 308 "MixBenchModel" "place" "I", .methodLink RX4 166 yX4_beyond, .static yX4_beyond, .initialized RX4, .code yX4_beyond cX4_beyond 2 (some .boolean), .constantLong RX4 156 (16383), .methodLink RX4 304 yX4_fail, .instanceMethod yX4_fail, .selects RX4 yX4_fail yX4_fail, .code yX4_fail cX4_fail 2 (some .int)] ++ wsX40)
def wsX4_put : List Cond := .code yX4_put cX4_put 6 (some .int) :: ([.fieldLink RX4 153 "MixBenchModel" "thrown" "I", .fieldLink RX4 149 "MixBenchModel" "count" "I", .fieldLink RX4 26 "MixBenchModel" "names" "[I", .fieldLink RX4 308 "MixBenchModel" "place" "I", .fieldLink RX4 19 "MixBenchModel" "memory" "[B", .fieldLink RX4 30 "MixBenchModel" "codes" "[I", .methodLink RX4 304 yX4_fail, .instanceMethod yX4_fail, .selects RX4 yX4_fail yX4_fail, .initialized RX4, .code yX4_fail cX4_fail 2 (some .int)] ++ wsX40)
def wsX4_go_r1 : List Cond := [Cond.fieldLink RX4 153 "MixBenchModel" "thrown" "I", Cond.fieldLink RX4 162 "MixBenchModel" "pc" "J", Cond.methodLink RX4 304 yX4_fail, Cond.instanceMethod yX4_fail, Cond.selects RX4 yX4_fail yX4_fail, Cond.initialized RX4, Cond.code yX4_fail cX4_fail 2 (some .int), Cond.methodLink RX4 311 yX4_step, Cond.instanceMethod yX4_step, Cond.selects RX4 yX4_step yX4_step, Cond.code yX4_step cX4_step 7 (some .int), Cond.constantLong RX4 174 (31), Cond.fieldLink RX4 176 "MixBenchModel" "trail" "J", Cond.fieldLink RX4 7 "MixBenchModel" "g" "[J", Cond.constant RX4 179 (65535), Cond.fieldLink RX4 16 "MixBenchModel" "tallies" "[J", Cond.fieldLink RX4 201 "MixBenchModel" "last" "J", Cond.fieldLink RX4 204 "MixBenchModel" "oops" "J", Cond.constantLong RX4 207 (10), Cond.constantLong RX4 209 (60), Cond.constantLong RX4 211 (3), Cond.constantLong RX4 213 (5), Cond.fieldLink RX4 215 "MixBenchModel" "late" "Z", Cond.methodLink RX4 166 yX4_beyond]
def wsX4_go_r2 : List Cond := [Cond.static yX4_beyond, Cond.code yX4_beyond cX4_beyond 2 (some .boolean), Cond.constantLong RX4 156 (16383), Cond.methodLink RX4 170 yX4_m, Cond.instanceMethod yX4_m, Cond.selects RX4 yX4_m yX4_m, Cond.code yX4_m cX4_m 8 (some .long), Cond.fieldLink RX4 19 "MixBenchModel" "memory" "[B", Cond.methodLink RX4 180 yX4_branch, Cond.instanceMethod yX4_branch, Cond.selects RX4 yX4_branch yX4_branch, Cond.code yX4_branch cX4_branch 5 (some .int), Cond.constantLong RX4 223 (4), Cond.constantLong RX4 225 (-4), Cond.constant RX4 227 (65536), Cond.methodLink RX4 219 yX4_holds, Cond.static yX4_holds, Cond.code yX4_holds cX4_holds 3 (some .boolean), Cond.methodLink RX4 184 yX4_low, Cond.instanceMethod yX4_low, Cond.selects RX4 yX4_low yX4_low, Cond.code yX4_low cX4_low 11 (some .int), Cond.fieldLink RX4 13 "MixBenchModel" "special" "[J", Cond.constantLong RX4 255 (2)]
def wsX4_go_r3 : List Cond := [Cond.constantLong RX4 257 (8), Cond.constantLong RX4 259 (16), Cond.constantLong RX4 261 (-1), Cond.constantLong RX4 267 (63), Cond.methodLink RX4 234 yX4_trap, Cond.instanceMethod yX4_trap, Cond.selects RX4 yX4_trap yX4_trap, Cond.code yX4_trap cX4_trap 4 (some .int), Cond.fieldLink RX4 277 "MixBenchModel" "outputs" "I", Cond.fieldLink RX4 23 "MixBenchModel" "output" "[B", Cond.methodLink RX4 237 yX4_number, Cond.instanceMethod yX4_number, Cond.selects RX4 yX4_number yX4_number, Cond.code yX4_number cX4_number 3 (some .long), Cond.methodLink RX4 241 yX4_upper, Cond.static yX4_upper, Cond.code yX4_upper cX4_upper 16 (some .long), Cond.constantLong RX4 273 (4294967295), Cond.methodLink RX4 245 yX4_over, Cond.instanceMethod yX4_over, Cond.selects RX4 yX4_over yX4_over, Cond.code yX4_over cX4_over 2 none, Cond.constantLong RX4 158 (64), Cond.methodLink RX4 249 yX4_quotient]
def wsX4_go_r4 : List Cond := [Cond.instanceMethod yX4_quotient, Cond.selects RX4 yX4_quotient yX4_quotient, Cond.code yX4_quotient cX4_quotient 7 (some .long), Cond.constantLong RX4 275 (128), Cond.constantLong RX4 160 (-9223372036854775808), Cond.methodLink RX4 252 yX4_quotientOf, Cond.instanceMethod yX4_quotientOf, Cond.selects RX4 yX4_quotientOf yX4_quotientOf, Cond.code yX4_quotientOf cX4_quotientOf 11 (some .long), Cond.methodLink RX4 263 yX4_above, Cond.static yX4_above, Cond.code yX4_above cX4_above 4 (some .boolean), Cond.methodLink RX4 269 yX4_done, Cond.instanceMethod yX4_done, Cond.selects RX4 yX4_done yX4_done, Cond.code yX4_done cX4_done 4 (some .int), Cond.constantLong RX4 228 (37), Cond.methodLink RX4 230 yX4_on, Cond.instanceMethod yX4_on, Cond.selects RX4 yX4_on yX4_on, Cond.code yX4_on cX4_on 1 (some .int), Cond.methodLink RX4 188 yX4_choose, Cond.instanceMethod yX4_choose, Cond.selects RX4 yX4_choose yX4_choose]
def wsX4_go_r5 : List Cond := [Cond.code yX4_choose cX4_choose 6 (some .int), Cond.methodLink RX4 191 yX4_access, Cond.instanceMethod yX4_access, Cond.selects RX4 yX4_access yX4_access, Cond.code yX4_access cX4_access 13 (some .int), Cond.fieldLink RX4 280 "MixBenchModel" "mems" "J", Cond.methodLink RX4 283 yX4_signed, Cond.static yX4_signed, Cond.code yX4_signed cX4_signed 3 (some .long), Cond.methodLink RX4 286 yX4_m_, Cond.instanceMethod yX4_m_, Cond.selects RX4 yX4_m_ yX4_m_, Cond.code yX4_m_ cX4_m_ 8 none, Cond.methodLink RX4 194 yX4_bits, Cond.instanceMethod yX4_bits, Cond.selects RX4 yX4_bits yX4_bits, Cond.code yX4_bits cX4_bits 12 (some .int), Cond.methodLink RX4 289 yX4_matrix, Cond.static yX4_matrix, Cond.code yX4_matrix cX4_matrix 13 (some .long), Cond.constantLong RX4 297 (255), Cond.methodLink RX4 293 yX4_differences, Cond.static yX4_differences, Cond.code yX4_differences cX4_differences 12 (some .long)]
def wsX4_go_r6 : List Cond := [Cond.methodLink RX4 197 yX4_high, Cond.instanceMethod yX4_high, Cond.selects RX4 yX4_high yX4_high, Cond.code yX4_high cX4_high 12 (some .int), Cond.constant RX4 299 (16777215), Cond.constantLong RX4 300 (16777216), Cond.constantLong RX4 302 (65536)]
def wsX4_go : List Cond := .code yX4_go cX4_go 5 (some .int) :: ((wsX4_go_r1 ++ (wsX4_go_r2 ++ (wsX4_go_r3 ++ (wsX4_go_r4 ++ (wsX4_go_r5 ++ wsX4_go_r6))))) ++ wsX40)
def wsX4_mark : List Cond := .code yX4_mark cX4_mark 4 (some .long) :: ([.fieldLink RX4 153 "MixBenchModel" "thrown" "I", .fieldLink RX4 7 "MixBenchModel" "g" "[J", .constantLong RX4 255 (2), .constantLong RX4 314 (-7046029254386353131)] ++ wsX40)
def wsX4_tally : List Cond := .code yX4_tally cX4_tally 2 (some .long) :: ([.fieldLink RX4 153 "MixBenchModel" "thrown" "I", .fieldLink RX4 16 "MixBenchModel" "tallies" "[J", .methodLink RX4 304 yX4_fail, .instanceMethod yX4_fail, .selects RX4 yX4_fail yX4_fail, .initialized RX4, .code yX4_fail cX4_fail 2 (some .int)] ++ wsX40)
def wsX4_spend : List Cond := .code yX4_spend cX4_spend 2 (some .long) :: ([.fieldLink RX4 153 "MixBenchModel" "thrown" "I", .fieldLink RX4 204 "MixBenchModel" "oops" "J", .methodLink RX4 304 yX4_fail, .instanceMethod yX4_fail, .selects RX4 yX4_fail yX4_fail, .initialized RX4, .code yX4_fail cX4_fail 2 (some .int)] ++ wsX40)
def wsX4_output : List Cond := .code yX4_output cX4_output 2 (some .int) :: ([.fieldLink RX4 153 "MixBenchModel" "thrown" "I", .fieldLink RX4 277 "MixBenchModel" "outputs" "I", .fieldLink RX4 23 "MixBenchModel" "output" "[B", .methodLink RX4 304 yX4_fail, .instanceMethod yX4_fail, .selects RX4 yX4_fail yX4_fail, .initialized RX4, .code yX4_fail cX4_fail 2 (some .int)] ++ wsX40)
def wsX4_count : List Cond := .code yX4_count cX4_count 2 (some .long) :: ([.fieldLink RX4 153 "MixBenchModel" "thrown" "I", .fieldLink RX4 162 "MixBenchModel" "pc" "J", .fieldLink RX4 204 "MixBenchModel" "oops" "J", .fieldLink RX4 280 "MixBenchModel" "mems" "J", .fieldLink RX4 277 "MixBenchModel" "outputs" "I", .fieldLink RX4 308 "MixBenchModel" "place" "I", .fieldLink RX4 176 "MixBenchModel" "trail" "J", .fieldLink RX4 201 "MixBenchModel" "last" "J", .constantLong RX4 261 (-1)] ++ wsX40)
def wsL_set : List Cond := .codeWith yL_set cL_set 6 (some .int) [(0, 10, 13, 13)] :: ([.classLink RL 13 "java/util/NoSuchElementException", .methodLink RL 7 yX3_set, .instanceMethod yX3_set, .selects RX3 yX3_set yX3_set, .initialized RX3, .code yX3_set cX3_set 6 (some .long), .classLink RX3 30 "java/util/NoSuchElementException", .initialized "java/util/NoSuchElementException", .fieldLink RX3 9 "MixBench" "registers" "[J"] ++ wsX30 ++ (vx_atS RX3 34 "java/util/NoSuchElementException" ["java/lang/RuntimeException", "java/lang/Exception"]).filter goodWord)
def wsL_get : List Cond := .codeWith yL_get cL_get 4 (some .int) [(0, 8, 11, 13)] :: ([.classLink RL 13 "java/util/NoSuchElementException", .methodLink RL 15 yX3_get, .instanceMethod yX3_get, .selects RX3 yX3_get yX3_get, .initialized RX3, .code yX3_get cX3_get 2 (some .long), .classLink RX3 30 "java/util/NoSuchElementException", .initialized "java/util/NoSuchElementException", .fieldLink RX3 9 "MixBench" "registers" "[J", .fieldLink RX3 13 "MixBench" "specials" "[J"] ++ wsX30 ++ (vx_atS RX3 34 "java/util/NoSuchElementException" ["java/lang/RuntimeException", "java/lang/Exception"]).filter goodWord)
def wsL_poke_r1 : List Cond := [Cond.classLink RL 22 "java/lang/IndexOutOfBoundsException", Cond.methodLink RL 19 yX3_poke, Cond.instanceMethod yX3_poke, Cond.selects RX3 yX3_poke yX3_poke, Cond.initialized RX3, Cond.code yX3_poke cX3_poke 6 (some .long), Cond.classLink RX3 41 "java/lang/IndexOutOfBoundsException", Cond.initialized "java/lang/IndexOutOfBoundsException", Cond.fieldLink RX3 26 "MixBench" "memory" "LMixBench$Memory;", Cond.methodLink RX3 37 yX3_isBeyond, Cond.static yX3_isBeyond, Cond.code yX3_isBeyond cX3_isBeyond 2 (some .boolean), Cond.constantLong RX3 106 (16384), Cond.instanceMethod yX0_load, Cond.initialized RX0, Cond.selects RX0 yX0_load yX0_load, Cond.code yX0_load cX0_load 4 (some .long), Cond.fieldLink RX0 9 "MixBench$Memory" "octas" "[J", Cond.methodLink RX0 17 yX0_octaOf, Cond.static yX0_octaOf, Cond.code yX0_octaOf cX0_octaOf 2 (some .int), Cond.methodLink RX0 21 yX0_shiftOf, Cond.static yX0_shiftOf, Cond.code yX0_shiftOf cX0_shiftOf 4 (some .int)]
def wsL_poke_r2 : List Cond := [Cond.methodLink RX0 25 yX0_maskOf, Cond.static yX0_maskOf, Cond.code yX0_maskOf cX0_maskOf 1 (some .long), Cond.constantLong RX0 15 (-1), Cond.instanceMethod yX0_store, Cond.selects RX0 yX0_store yX0_store, Cond.code yX0_store cX0_store 9 none]
def wsL_poke : List Cond := .codeWith yL_poke cL_poke 6 (some .int) [(0, 10, 13, 22)] :: ((wsL_poke_r1 ++ wsL_poke_r2) ++ wsX30 ++ wsX00 ++ (vx_atS RX3 45 "java/lang/IndexOutOfBoundsException" ["java/lang/RuntimeException", "java/lang/Exception"]).filter goodWord)
def wsL_peek_r1 : List Cond := [Cond.classLink RL 22 "java/lang/IndexOutOfBoundsException", Cond.methodLink RL 24 yX3_peek, Cond.instanceMethod yX3_peek, Cond.selects RX3 yX3_peek yX3_peek, Cond.initialized RX3, Cond.code yX3_peek cX3_peek 2 (some .long), Cond.classLink RX3 41 "java/lang/IndexOutOfBoundsException", Cond.initialized "java/lang/IndexOutOfBoundsException", Cond.fieldLink RX3 26 "MixBench" "memory" "LMixBench$Memory;", Cond.methodLink RX3 37 yX3_isBeyond, Cond.static yX3_isBeyond, Cond.code yX3_isBeyond cX3_isBeyond 2 (some .boolean), Cond.constantLong RX3 106 (16384), Cond.instanceMethod yX0_load, Cond.initialized RX0, Cond.selects RX0 yX0_load yX0_load, Cond.code yX0_load cX0_load 4 (some .long), Cond.fieldLink RX0 9 "MixBench$Memory" "octas" "[J", Cond.methodLink RX0 17 yX0_octaOf, Cond.static yX0_octaOf, Cond.code yX0_octaOf cX0_octaOf 2 (some .int), Cond.methodLink RX0 21 yX0_shiftOf, Cond.static yX0_shiftOf, Cond.code yX0_shiftOf cX0_shiftOf 4 (some .int)]
def wsL_peek_r2 : List Cond := [Cond.methodLink RX0 25 yX0_maskOf, Cond.static yX0_maskOf, Cond.code yX0_maskOf cX0_maskOf 1 (some .long), Cond.constantLong RX0 15 (-1)]
def wsL_peek : List Cond := .codeWith yL_peek cL_peek 4 (some .int) [(0, 8, 11, 22)] :: ((wsL_peek_r1 ++ wsL_peek_r2) ++ wsX30 ++ wsX00 ++ (vx_atS RX3 45 "java/lang/IndexOutOfBoundsException" ["java/lang/RuntimeException", "java/lang/Exception"]).filter goodWord)
def wsL_at : List Cond := .codeWith yL_at cL_at 4 (some .int) [(0, 9, 12, 22)] :: ([.classLink RL 22 "java/lang/IndexOutOfBoundsException", .methodLink RL 27 yX3_at, .instanceMethod yX3_at, .selects RX3 yX3_at yX3_at, .initialized RX3, .code yX3_at cX3_at 2 (some .int), .classLink RX3 41 "java/lang/IndexOutOfBoundsException", .initialized "java/lang/IndexOutOfBoundsException", .fieldLink RX3 54 "MixBench" "place" "I", .methodLink RX3 37 yX3_isBeyond, .static yX3_isBeyond, .code yX3_isBeyond cX3_isBeyond 2 (some .boolean), .constantLong RX3 106 (16384)] ++ wsX30 ++ (vx_atS RX3 45 "java/lang/IndexOutOfBoundsException" ["java/lang/RuntimeException", "java/lang/Exception"]).filter goodWord)
def wsL_put_r1 : List Cond := [Cond.classLink RL 13 "java/util/NoSuchElementException", Cond.methodLink RL 31 yX3_put, Cond.instanceMethod yX3_put, Cond.selects RX3 yX3_put yX3_put, Cond.initialized RX3, Cond.code yX3_put cX3_put 7 (some .int), Cond.classLink RX3 30 "java/util/NoSuchElementException", Cond.initialized "java/util/NoSuchElementException", Cond.classLink RX3 41 "java/lang/IndexOutOfBoundsException", Cond.initialized "java/lang/IndexOutOfBoundsException", Cond.fieldLink RX3 54 "MixBench" "place" "I", Cond.fieldLink RX3 26 "MixBench" "memory" "LMixBench$Memory;", Cond.static yX1_opNamed, Cond.initialized RX1, Cond.code yX1_opNamed cX1_opNamed 2 (some .int), Cond.methodLink RX1 7 yX1_singleNamed, Cond.static yX1_singleNamed, Cond.code yX1_singleNamed cX1_singleNamed 3 (some .int), Cond.methodLink RX1 23 yX1_meantBy, Cond.static yX1_meantBy, Cond.code yX1_meantBy cX1_meantBy 4 (some .int), Cond.methodLink RX1 63 yX1_placeOf, Cond.static yX1_placeOf, Cond.code yX1_placeOf cX1_placeOf 6 (some .int)]
def wsL_put_r2 : List Cond := [Cond.methodLink RX1 70 yJ0_length_8abf5, Cond.instanceMethod yJ0_length_8abf5, Cond.selects RJ0 yJ0_length_8abf5 yJ0_length_8abf5, Cond.initialized RJ0, Cond.code yJ0_length_8abf5 cJ0_length_8abf5 1 (some .int), Cond.fieldLink RJ0 9 "java/lang/String" "value" "[B", Cond.methodLink RJ0 335 yJ0_coder_7d493, Cond.instanceMethod yJ0_coder_7d493, Cond.selects RJ0 yJ0_coder_7d493 yJ0_coder_7d493, Cond.code yJ0_coder_7d493 cJ0_coder_7d493 1 (some .byte), Cond.fieldLink RJ0 38 "java/lang/String" "COMPACT_STRINGS" "Z", Cond.fieldLink RJ0 15 "java/lang/String" "coder" "B", Cond.methodLink RX1 76 yJ0_charAt_5068e, Cond.instanceMethod yJ0_charAt_5068e, Cond.selects RJ0 yJ0_charAt_5068e yJ0_charAt_5068e, Cond.code yJ0_charAt_5068e cJ0_charAt_5068e 2 (some .char), Cond.methodLink RJ0 492 yJ0_isLatin1_aae02, Cond.instanceMethod yJ0_isLatin1_aae02, Cond.selects RJ0 yJ0_isLatin1_aae02 yJ0_isLatin1_aae02, Cond.code yJ0_isLatin1_aae02 cJ0_isLatin1_aae02 1 (some .boolean), Cond.methodLink RJ0 495 yJ1_charAt_3b067, Cond.static yJ1_charAt_3b067, Cond.initialized RJ1, Cond.code yJ1_charAt_3b067 cJ1_charAt_3b067 2 (some .char)]
def wsL_put_r3 : List Cond := [Cond.methodLink RJ1 9 yJ0_checkIndex_df160, Cond.static yJ0_checkIndex_df160, Cond.code yJ0_checkIndex_df160 cJ0_checkIndex_df160 2 none, Cond.fieldLink RJ0 1053 "jdk/internal/util/Preconditions" "SIOOBE_FORMATTER" "Ljava/util/function/BiFunction;", Cond.methodLink RJ0 1059 yJ3_checkIndex_8e157, Cond.static yJ3_checkIndex_8e157, Cond.initialized RJ3, Cond.code yJ3_checkIndex_8e157 cJ3_checkIndex_8e157 3 (some .int), Cond.methodLink RJ0 498 yJ2_charAt_3b067, Cond.static yJ2_charAt_3b067, Cond.initialized RJ2, Cond.code yJ2_charAt_3b067 cJ2_charAt_3b067 2 (some .char), Cond.methodLink RJ2 67 yJ2_checkIndex_2214a, Cond.static yJ2_checkIndex_2214a, Cond.code yJ2_checkIndex_2214a cJ2_checkIndex_2214a 2 none, Cond.methodLink RJ2 48 yJ2_length_9d52b, Cond.static yJ2_length_9d52b, Cond.code yJ2_length_9d52b cJ2_length_9d52b 1 (some .int), Cond.methodLink RJ2 414 yJ0_checkIndex_df160, Cond.methodLink RJ2 71 yJ2_getChar_3b067, Cond.static yJ2_getChar_3b067, Cond.code yJ2_getChar_3b067 cJ2_getChar_3b067 2 (some .char), Cond.fieldLink RJ2 44 "java/lang/StringUTF16" "$assertionsDisabled" "Z", Cond.fieldLink RJ2 59 "java/lang/StringUTF16" "HI_BYTE_SHIFT" "I"]
def wsL_put_r4 : List Cond := [Cond.fieldLink RJ2 63 "java/lang/StringUTF16" "LO_BYTE_SHIFT" "I", Cond.methodLink RX1 67 yX1_nameAt, Cond.static yX1_nameAt, Cond.code yX1_nameAt cX1_nameAt 6 (some .int), Cond.methodLink RX1 29 yX1_opInRow, Cond.static yX1_opInRow, Cond.code yX1_opInRow cX1_opInRow 5 (some .int), Cond.methodLink RX1 13 yX1_evenNamed, Cond.static yX1_evenNamed, Cond.code yX1_evenNamed cX1_evenNamed 3 (some .int), Cond.methodLink RX1 16 yX1_oddNamed, Cond.static yX1_oddNamed, Cond.code yX1_oddNamed cX1_oddNamed 4 (some .int), Cond.methodLink RX3 37 yX3_isBeyond, Cond.static yX3_isBeyond, Cond.code yX3_isBeyond cX3_isBeyond 2 (some .boolean), Cond.constantLong RX3 106 (16384), Cond.instanceMethod yX0_store, Cond.initialized RX0, Cond.selects RX0 yX0_store yX0_store, Cond.code yX0_store cX0_store 9 none, Cond.fieldLink RX0 9 "MixBench$Memory" "octas" "[J", Cond.constantLong RX0 15 (-1), Cond.methodLink RX0 21 yX0_shiftOf]
def wsL_put_r5 : List Cond := [Cond.static yX0_shiftOf, Cond.code yX0_shiftOf cX0_shiftOf 4 (some .int), Cond.methodLink RX0 17 yX0_octaOf, Cond.static yX0_octaOf, Cond.code yX0_octaOf cX0_octaOf 2 (some .int), Cond.methodLink RX0 25 yX0_maskOf, Cond.static yX0_maskOf, Cond.code yX0_maskOf cX0_maskOf 1 (some .long)]
def wsL_put : List Cond := .codeWith yL_put cL_put 7 (some .int) [(0, 14, 17, 13), (0, 14, 21, 22)] :: ((wsL_put_r1 ++ (wsL_put_r2 ++ (wsL_put_r3 ++ (wsL_put_r4 ++ wsL_put_r5)))) ++ wsX30 ++ wsX00 ++ (vx_atS RX3 34 "java/util/NoSuchElementException" ["java/lang/RuntimeException", "java/lang/Exception"]).filter goodWord ++ (vx_atS RX3 45 "java/lang/IndexOutOfBoundsException" ["java/lang/RuntimeException", "java/lang/Exception"]).filter goodWord)
def wsL_go_r1 : List Cond := [Cond.classLink RL 39 "java/lang/IllegalArgumentException", Cond.methodLink RL 35 yX3_go, Cond.instanceMethod yX3_go, Cond.selects RX3 yX3_go yX3_go, Cond.initialized RX3, Cond.code yX3_go cX3_go 5 (some .int), Cond.classLink RX3 68 "java/lang/IllegalArgumentException", Cond.initialized "java/lang/IllegalArgumentException", Cond.fieldLink RX3 73 "MixBench" "pc" "J", Cond.methodLink RX3 77 yX3_doNext, Cond.instanceMethod yX3_doNext, Cond.selects RX3 yX3_doNext yX3_doNext, Cond.code yX3_doNext cX3_doNext 7 (some .int), Cond.fieldLink RX3 26 "MixBench" "memory" "LMixBench$Memory;", Cond.fieldLink RX3 9 "MixBench" "registers" "[J", Cond.methodLink RX3 37 yX3_isBeyond, Cond.static yX3_isBeyond, Cond.code yX3_isBeyond cX3_isBeyond 2 (some .boolean), Cond.constantLong RX3 106 (16384), Cond.instanceMethod yX0_load, Cond.initialized RX0, Cond.selects RX0 yX0_load yX0_load, Cond.code yX0_load cX0_load 4 (some .long), Cond.fieldLink RX0 9 "MixBench$Memory" "octas" "[J"]
def wsL_go_r2 : List Cond := [Cond.methodLink RX0 17 yX0_octaOf, Cond.static yX0_octaOf, Cond.code yX0_octaOf cX0_octaOf 2 (some .int), Cond.methodLink RX0 21 yX0_shiftOf, Cond.static yX0_shiftOf, Cond.code yX0_shiftOf cX0_shiftOf 4 (some .int), Cond.methodLink RX0 25 yX0_maskOf, Cond.static yX0_maskOf, Cond.code yX0_maskOf cX0_maskOf 1 (some .long), Cond.constantLong RX0 15 (-1), Cond.methodLink RX3 109 yX3_followFetch, Cond.instanceMethod yX3_followFetch, Cond.selects RX3 yX3_followFetch yX3_followFetch, Cond.code yX3_followFetch cX3_followFetch 2 none, Cond.constantLong RX3 138 (31), Cond.fieldLink RX3 98 "MixBench" "trail" "J", Cond.methodLink RX3 117 yX3_byteY, Cond.static yX3_byteY, Cond.code yX3_byteY cX3_byteY 1 (some .int), Cond.methodLink RX3 140 yX3_byteZ, Cond.static yX3_byteZ, Cond.code yX3_byteZ cX3_byteZ 1 (some .int), Cond.methodLink RX3 143 yX3_byteX, Cond.static yX3_byteX]
def wsL_go_r3 : List Cond := [Cond.code yX3_byteX cX3_byteX 1 (some .int), Cond.methodLink RX3 113 yX3_isLegal, Cond.static yX3_isLegal, Cond.code yX3_isLegal cX3_isLegal 2 (some .boolean), Cond.methodLink RX3 124 yX3_opOf, Cond.static yX3_opOf, Cond.code yX3_opOf cX3_opOf 1 (some .int), Cond.methodLink RX3 120 yX3_operandZ, Cond.instanceMethod yX3_operandZ, Cond.selects RX3 yX3_operandZ yX3_operandZ, Cond.code yX3_operandZ cX3_operandZ 4 (some .long), Cond.methodLink RX3 127 yX3_isLoadOrStore, Cond.static yX3_isLoadOrStore, Cond.code yX3_isLoadOrStore cX3_isLoadOrStore 1 (some .boolean), Cond.methodLink RX3 146 yX3_isGo, Cond.static yX3_isGo, Cond.code yX3_isGo cX3_isGo 1 (some .boolean), Cond.methodLink RX3 130 yX3_bill, Cond.instanceMethod yX3_bill, Cond.selects RX3 yX3_bill yX3_bill, Cond.code yX3_bill cX3_bill 3 none, Cond.fieldLink RX3 16 "MixBench" "tallies" "[J", Cond.fieldLink RX3 101 "MixBench" "lastTally" "J", Cond.fieldLink RX3 87 "MixBench" "oops" "J"]
def wsL_go_r4 : List Cond := [Cond.fieldLink RX3 95 "MixBench" "mems" "J", Cond.methodLink RX3 149 yX3_leastOops, Cond.static yX3_leastOops, Cond.code yX3_leastOops cX3_leastOops 1 (some .int), Cond.methodLink RX3 134 yX3_perform, Cond.instanceMethod yX3_perform, Cond.selects RX3 yX3_perform yX3_perform, Cond.code yX3_perform cX3_perform 9 none, Cond.constantLong RX3 152 (4), Cond.methodLink RX3 154 yX3_trap, Cond.instanceMethod yX3_trap, Cond.selects RX3 yX3_trap yX3_trap, Cond.code yX3_trap cX3_trap 4 none, Cond.fieldLink RX3 90 "MixBench" "outputLength" "I", Cond.fieldLink RX3 19 "MixBench" "outputBytes" "[B", Cond.methodLink RX3 158 yX3_productOrQuotient, Cond.instanceMethod yX3_productOrQuotient, Cond.selects RX3 yX3_productOrQuotient yX3_productOrQuotient, Cond.code yX3_productOrQuotient cX3_productOrQuotient 6 (some .long), Cond.constantLong RX3 199 (64), Cond.fieldLink RX3 13 "MixBench" "specials" "[J", Cond.static yX2_highOfSignedProduct, Cond.initialized RX2, Cond.code yX2_highOfSignedProduct cX2_highOfSignedProduct 4 (some .long)]
def wsL_go_r5 : List Cond := [Cond.methodLink RX2 13 yX2_highOfProduct, Cond.static yX2_highOfProduct, Cond.code yX2_highOfProduct cX2_highOfProduct 16 (some .long), Cond.constantLong RX2 11 (4294967295), Cond.methodLink RX3 205 yX3_raise, Cond.instanceMethod yX3_raise, Cond.selects RX3 yX3_raise yX3_raise, Cond.code yX3_raise cX3_raise 4 none, Cond.methodLink RX3 212 yX3_quotient, Cond.instanceMethod yX3_quotient, Cond.selects RX3 yX3_quotient yX3_quotient, Cond.code yX3_quotient cX3_quotient 7 (some .long), Cond.constantLong RX3 219 (128), Cond.constantLong RX3 221 (-9223372036854775808), Cond.constantLong RX3 104 (-1), Cond.methodLink RX3 223 yJ9_floorDiv_f86c9, Cond.static yJ9_floorDiv_f86c9, Cond.initialized RJ9, Cond.code yJ9_floorDiv_f86c9 cJ9_floorDiv_f86c9 6 (some .long), Cond.methodLink RX3 215 yX3_longQuotient, Cond.instanceMethod yX3_longQuotient, Cond.selects RX3 yX3_longQuotient yX3_longQuotient, Cond.code yX3_longQuotient cX3_longQuotient 13 (some .long), Cond.static yX2_isAbove]
def wsL_go_r6 : List Cond := [Cond.code yX2_isAbove cX2_isAbove 4 (some .boolean), Cond.constantLong RX2 9 (-9223372036854775808), Cond.methodLink RX3 162 yX3_writeX, Cond.instanceMethod yX3_writeX, Cond.selects RX3 yX3_writeX yX3_writeX, Cond.code yX3_writeX cX3_writeX 5 none, Cond.constantLong RX3 197 (37), Cond.methodLink RX3 165 yX3_sumOrDifference, Cond.instanceMethod yX3_sumOrDifference, Cond.selects RX3 yX3_sumOrDifference yX3_sumOrDifference, Cond.code yX3_sumOrDifference cX3_sumOrDifference 6 (some .long), Cond.methodLink RX3 232 yX3_checkedSum, Cond.instanceMethod yX3_checkedSum, Cond.selects RX3 yX3_checkedSum yX3_checkedSum, Cond.code yX3_checkedSum cX3_checkedSum 7 (some .long), Cond.methodLink RX3 235 yX3_checkedDifference, Cond.instanceMethod yX3_checkedDifference, Cond.selects RX3 yX3_checkedDifference yX3_checkedDifference, Cond.code yX3_checkedDifference cX3_checkedDifference 7 (some .long), Cond.methodLink RX3 168 yX3_comparedOrShifted, Cond.instanceMethod yX3_comparedOrShifted, Cond.selects RX3 yX3_comparedOrShifted yX3_comparedOrShifted, Cond.code yX3_comparedOrShifted cX3_comparedOrShifted 6 (some .long), Cond.methodLink RX3 238 yX3_checkedShift]
def wsL_go_r7 : List Cond := [Cond.instanceMethod yX3_checkedShift, Cond.selects RX3 yX3_checkedShift yX3_checkedShift, Cond.code yX3_checkedShift cX3_checkedShift 7 (some .long), Cond.static yX2_shiftLeft, Cond.code yX2_shiftLeft cX2_shiftLeft 4 (some .long), Cond.methodLink RX2 21 yX2_isWholeShift, Cond.static yX2_isWholeShift, Cond.code yX2_isWholeShift cX2_isWholeShift 2 (some .boolean), Cond.constantLong RX2 19 (64), Cond.static yX2_shiftRight, Cond.code yX2_shiftRight cX2_shiftRight 4 (some .long), Cond.static yX2_shiftRightUnsigned, Cond.code yX2_shiftRightUnsigned cX2_shiftRightUnsigned 4 (some .long), Cond.methodLink RX3 171 yX3_branch, Cond.instanceMethod yX3_branch, Cond.selects RX3 yX3_branch yX3_branch, Cond.code yX3_branch cX3_branch 7 none, Cond.constantLong RX3 254 (2), Cond.methodLink RX3 250 yX3_holds, Cond.static yX3_holds, Cond.code yX3_holds cX3_holds 3 (some .boolean), Cond.methodLink RX3 256 yX3_relative, Cond.static yX3_relative, Cond.code yX3_relative cX3_relative 4 (some .long)]
def wsL_go_r8 : List Cond := [Cond.constant RX3 263 (65536), Cond.methodLink RX3 260 yX3_wydeYZ, Cond.static yX3_wydeYZ, Cond.code yX3_wydeYZ cX3_wydeYZ 1 (some .int), Cond.constant RX3 108 (65535), Cond.methodLink RX3 174 yX3_choose, Cond.instanceMethod yX3_choose, Cond.selects RX3 yX3_choose yX3_choose, Cond.code yX3_choose cX3_choose 7 none, Cond.methodLink RX3 177 yX3_loadOrGo, Cond.instanceMethod yX3_loadOrGo, Cond.selects RX3 yX3_loadOrGo yX3_loadOrGo, Cond.code yX3_loadOrGo cX3_loadOrGo 9 none, Cond.constantLong RX3 264 (-4), Cond.methodLink RX3 266 yX3_sizeOf, Cond.static yX3_sizeOf, Cond.code yX3_sizeOf cX3_sizeOf 1 (some .int), Cond.methodLink RX3 269 yX3_isUnsigned, Cond.static yX3_isUnsigned, Cond.code yX3_isUnsigned cX3_isUnsigned 1 (some .boolean), Cond.static yX2_signed, Cond.code yX2_signed cX2_signed 4 (some .long), Cond.methodLink RX3 180 yX3_storeX, Cond.instanceMethod yX3_storeX]
def wsL_go_r9 : List Cond := [Cond.selects RX3 yX3_storeX yX3_storeX, Cond.code yX3_storeX cX3_storeX 7 none, Cond.instanceMethod yX0_store, Cond.selects RX0 yX0_store yX0_store, Cond.code yX0_store cX0_store 9 none, Cond.static yX2_bitwise, Cond.code yX2_bitwise cX2_bitwise 5 (some .long), Cond.constantLong RX2 25 (-1), Cond.methodLink RX3 188 yX3_bytewise, Cond.instanceMethod yX3_bytewise, Cond.selects RX3 yX3_bytewise yX3_bytewise, Cond.code yX3_bytewise cX3_bytewise 6 (some .long), Cond.static yX2_differences, Cond.code yX2_differences cX2_differences 14 (some .long), Cond.methodLink RX2 27 yX2_isAbove, Cond.methodLink RX3 279 yJ13_bitCount_95d88, Cond.static yJ13_bitCount_95d88, Cond.initialized RJ13, Cond.code yJ13_bitCount_95d88 cJ13_bitCount_95d88 2 (some .int), Cond.constantLong RJ13 314 (6148914691236517205), Cond.constantLong RJ13 316 (3689348814741910323), Cond.constantLong RJ13 318 (1085102592571150095), Cond.static yX2_matrixProduct, Cond.code yX2_matrixProduct cX2_matrixProduct 12 (some .long)]
def wsL_go_r10 : List Cond := [Cond.constantLong RX2 31 (72340172838076673), Cond.constantLong RX2 33 (255), Cond.methodLink RX3 191 yX3_withWyde, Cond.instanceMethod yX3_withWyde, Cond.selects RX3 yX3_withWyde yX3_withWyde, Cond.code yX3_withWyde cX3_withWyde 7 (some .long), Cond.methodLink RX3 194 yX3_performRest, Cond.instanceMethod yX3_performRest, Cond.selects RX3 yX3_performRest yX3_performRest, Cond.code yX3_performRest cX3_performRest 7 none, Cond.constant RX3 289 (16777215), Cond.constant RX3 290 (16777216)]
def wsL_go : List Cond := .codeWith yL_go cL_go 5 (some .int) [(0, 10, 13, 39)] :: ((wsL_go_r1 ++ (wsL_go_r2 ++ (wsL_go_r3 ++ (wsL_go_r4 ++ (wsL_go_r5 ++ (wsL_go_r6 ++ (wsL_go_r7 ++ (wsL_go_r8 ++ (wsL_go_r9 ++ wsL_go_r10))))))))) ++ wsX30 ++ wsX00 ++ (vx_atS RX3 72 "java/lang/IllegalArgumentException" ["java/lang/RuntimeException", "java/lang/Exception"]).filter goodWord)
def wsL_tally : List Cond := .codeWith yL_tally cL_tally 4 (some .int) [(0, 8, 11, 13)] :: ([.classLink RL 13 "java/util/NoSuchElementException", .methodLink RL 41 yX3_tally, .instanceMethod yX3_tally, .selects RX3 yX3_tally yX3_tally, .initialized RX3, .code yX3_tally cX3_tally 2 (some .long), .classLink RX3 30 "java/util/NoSuchElementException", .initialized "java/util/NoSuchElementException", .fieldLink RX3 16 "MixBench" "tallies" "[J"] ++ wsX30 ++ (vx_atS RX3 34 "java/util/NoSuchElementException" ["java/lang/RuntimeException", "java/lang/Exception"]).filter goodWord)
def wsL_spend : List Cond := .codeWith yL_spend cL_spend 4 (some .int) [(0, 8, 11, 39)] :: ([.classLink RL 39 "java/lang/IllegalArgumentException", .methodLink RL 44 yX3_spend, .instanceMethod yX3_spend, .selects RX3 yX3_spend yX3_spend, .initialized RX3, .code yX3_spend cX3_spend 2 (some .long), .classLink RX3 68 "java/lang/IllegalArgumentException", .initialized "java/lang/IllegalArgumentException", .fieldLink RX3 87 "MixBench" "oops" "J"] ++ wsX30 ++ (vx_atS RX3 72 "java/lang/IllegalArgumentException" ["java/lang/RuntimeException", "java/lang/Exception"]).filter goodWord)
def wsL_output : List Cond := .codeWith yL_output cL_output 4 (some .int) [(0, 9, 12, 22)] :: ([.classLink RL 22 "java/lang/IndexOutOfBoundsException", .methodLink RL 47 yX3_output, .instanceMethod yX3_output, .selects RX3 yX3_output yX3_output, .initialized RX3, .code yX3_output cX3_output 2 (some .int), .classLink RX3 41 "java/lang/IndexOutOfBoundsException", .initialized "java/lang/IndexOutOfBoundsException", .fieldLink RX3 90 "MixBench" "outputLength" "I", .fieldLink RX3 19 "MixBench" "outputBytes" "[B"] ++ wsX30 ++ (vx_atS RX3 45 "java/lang/IndexOutOfBoundsException" ["java/lang/RuntimeException", "java/lang/Exception"]).filter goodWord)
def wsL_law0_r1 : List Cond := [Cond.classLink RL 8 RX3, Cond.instantiable RX3 12, Cond.initialized RX3, Cond.classLink RL 51 RX4, Cond.instantiable RX4 17, Cond.initialized RX4, Cond.arrayClass .long, Cond.constantLong RL 54 (4294967295), Cond.methodLink RL 50 yX3_init, Cond.instanceMethod yX3_init, Cond.code yX3_init cX3_init 1 none, Cond.methodLink RX3 1 objectInit, Cond.instanceMethod objectInit, Cond.code objectInit ⟨#[0xb1]⟩ 1 none, Cond.fieldLink RX3 9 "MixBench" "registers" "[J", Cond.fieldLink RX3 13 "MixBench" "specials" "[J", Cond.fieldLink RX3 16 "MixBench" "tallies" "[J", Cond.arrayClass .byte, Cond.fieldLink RX3 19 "MixBench" "outputBytes" "[B", Cond.classLink RX3 23 RX0, Cond.instantiable RX0 1, Cond.initialized RX0, Cond.fieldLink RX3 26 "MixBench" "memory" "LMixBench$Memory;", Cond.instanceMethod yX0_init]
def wsL_law0_r2 : List Cond := [Cond.code yX0_init cX0_init 1 none, Cond.methodLink RX0 3 objectInit, Cond.fieldLink RX0 9 "MixBench$Memory" "octas" "[J", Cond.methodLink RL 53 yX4_init, Cond.instanceMethod yX4_init, Cond.code yX4_init cX4_init 1 none, Cond.methodLink RX4 1 objectInit, Cond.fieldLink RX4 7 "MixBenchModel" "g" "[J", Cond.fieldLink RX4 13 "MixBenchModel" "special" "[J", Cond.fieldLink RX4 16 "MixBenchModel" "tallies" "[J", Cond.fieldLink RX4 19 "MixBenchModel" "memory" "[B", Cond.fieldLink RX4 23 "MixBenchModel" "output" "[B", Cond.arrayClass .int, Cond.fieldLink RX4 26 "MixBenchModel" "names" "[I", Cond.fieldLink RX4 30 "MixBenchModel" "codes" "[I", Cond.methodLink RX4 33 yX4_numbers, Cond.instanceMethod yX4_numbers, Cond.selects RX4 yX4_numbers yX4_numbers, Cond.code yX4_numbers cX4_numbers 1 none, Cond.constant RX4 52 (271533), Cond.constant RX4 53 (85908), Cond.constant RX4 54 (389361), Cond.constant RX4 55 (2148492), Cond.constant RX4 56 (9057225)]
def wsL_law0_r3 : List Cond := [Cond.constant RX4 57 (7994343), Cond.constant RX4 58 (4274256), Cond.constant RX4 59 (68979), Cond.constant RX4 60 (279417), Cond.methodLink RX4 48 yX4_pair, Cond.instanceMethod yX4_pair, Cond.selects RX4 yX4_pair yX4_pair, Cond.code yX4_pair cX4_pair 4 none, Cond.methodLink RX4 115 yX4_add, Cond.instanceMethod yX4_add, Cond.selects RX4 yX4_add yX4_add, Cond.code yX4_add cX4_add 3 none, Cond.fieldLink RX4 149 "MixBenchModel" "count" "I", Cond.methodLink RX4 36 yX4_conditions, Cond.instanceMethod yX4_conditions, Cond.selects RX4 yX4_conditions yX4_conditions, Cond.code yX4_conditions cX4_conditions 1 none, Cond.constant RX4 61 (316795), Cond.constant RX4 62 (316778), Cond.constant RX4 63 (316790), Cond.constant RX4 64 (316780), Cond.constant RX4 65 (316543), Cond.constant RX4 66 (316730), Cond.constant RX4 67 (316538)]
def wsL_law0_r4 : List Cond := [Cond.constant RX4 68 (316595), Cond.constant RX4 69 (316580), Cond.constant RX4 70 (316769), Cond.constant RX4 71 (316715), Cond.constant RX4 72 (73309), Cond.constant RX4 73 (73292), Cond.constant RX4 74 (73304), Cond.constant RX4 75 (73294), Cond.constant RX4 76 (73057), Cond.constant RX4 77 (73244), Cond.constant RX4 78 (73052), Cond.constant RX4 79 (73109), Cond.constant RX4 80 (73094), Cond.constant RX4 81 (73283), Cond.constant RX4 82 (73229), Cond.constant RX4 83 (526018), Cond.constant RX4 84 (526001), Cond.constant RX4 85 (526013), Cond.constant RX4 86 (526003), Cond.constant RX4 87 (525766), Cond.constant RX4 88 (525953), Cond.constant RX4 89 (525761), Cond.constant RX4 90 (525818), Cond.constant RX4 91 (525803)]
def wsL_law0_r5 : List Cond := [Cond.constant RX4 92 (525992), Cond.constant RX4 93 (525938), Cond.methodLink RX4 39 yX4_accesses, Cond.instanceMethod yX4_accesses, Cond.selects RX4 yX4_accesses yX4_accesses, Cond.code yX4_accesses cX4_accesses 1 none, Cond.constant RX4 94 (239187), Cond.constant RX4 95 (239754), Cond.constant RX4 96 (239673), Cond.constant RX4 97 (239538), Cond.constant RX4 98 (239348), Cond.constant RX4 99 (212506), Cond.constant RX4 100 (388632), Cond.constant RX4 101 (389199), Cond.constant RX4 102 (389118), Cond.constant RX4 103 (388983), Cond.constant RX4 104 (388793), Cond.constant RX4 105 (388653), Cond.methodLink RX4 42 yX4_bitNames, Cond.instanceMethod yX4_bitNames, Cond.selects RX4 yX4_bitNames yX4_bitNames, Cond.code yX4_bitNames cX4_bitNames 1 none, Cond.constant RX4 106 (276673), Cond.constant RX4 107 (293481)]
def wsL_law0_r6 : List Cond := [Cond.constant RX4 108 (42531), Cond.constant RX4 109 (455874), Cond.constant RX4 110 (396825), Cond.constant RX4 111 (298410), Cond.constant RX4 112 (374818), Cond.constant RX4 113 (273798), Cond.methodLink RX4 45 yX4_others, Cond.instanceMethod yX4_others, Cond.selects RX4 yX4_others yX4_others, Cond.code yX4_others cX4_others 1 none, Cond.constant RX4 114 (378170), Cond.constant RX4 119 (10210733), Cond.constant RX4 120 (10210737), Cond.constant RX4 121 (378174), Cond.constant RX4 122 (187442), Cond.constant RX4 123 (5061077), Cond.constant RX4 124 (5061081), Cond.constant RX4 125 (187446), Cond.constant RX4 126 (308726), Cond.constant RX4 127 (308730), Cond.constant RX4 128 (810305), Cond.constant RX4 129 (21878378), Cond.constant RX4 130 (21878382), Cond.constant RX4 131 (810309)]
def wsL_law0_r7 : List Cond := [Cond.constant RX4 132 (40187), Cond.constant RX4 133 (141967), Cond.constant RX4 134 (391432), Cond.constant RX4 135 (406825), Cond.constant RX4 136 (158537), Cond.constant RX4 137 (243116), Cond.constant RX4 138 (243120), Cond.constant RX4 139 (324262), Cond.constant RX4 140 (7096672), Cond.constant RX4 141 (10815598), Cond.constant RX4 142 (350345), Cond.constant RX4 143 (70351), Cond.constant RX4 144 (380154), Cond.constant RX4 145 (380316), Cond.constant RX4 146 (267413), Cond.constant RX4 147 (46486), Cond.constant RX4 148 (321581), Cond.methodLink RL 56 yL_set, Cond.static yL_set, Cond.initialized RL, Cond.codeWith yL_set cL_set 6 (some .int) [(0, 10, 13, 13)], Cond.classLink RL 13 "java/util/NoSuchElementException", Cond.methodLink RL 7 yX3_set, Cond.instanceMethod yX3_set]
def wsL_law0_r8 : List Cond := [Cond.selects RX3 yX3_set yX3_set, Cond.code yX3_set cX3_set 6 (some .long), Cond.classLink RX3 30 "java/util/NoSuchElementException", Cond.initialized "java/util/NoSuchElementException", Cond.methodLink RL 61 yX4_set, Cond.instanceMethod yX4_set, Cond.selects RX4 yX4_set yX4_set, Cond.code yX4_set cX4_set 6 (some .long), Cond.fieldLink RX4 153 "MixBenchModel" "thrown" "I", Cond.methodLink RX4 304 yX4_fail, Cond.instanceMethod yX4_fail, Cond.selects RX4 yX4_fail yX4_fail, Cond.code yX4_fail cX4_fail 2 (some .int), Cond.methodLink RL 62 yX4_thrown, Cond.instanceMethod yX4_thrown, Cond.selects RX4 yX4_thrown yX4_thrown, Cond.code yX4_thrown cX4_thrown 1 (some .int), Cond.methodLink RL 66 yL_get, Cond.static yL_get, Cond.codeWith yL_get cL_get 4 (some .int) [(0, 8, 11, 13)], Cond.methodLink RL 15 yX3_get, Cond.instanceMethod yX3_get, Cond.selects RX3 yX3_get yX3_get, Cond.code yX3_get cX3_get 2 (some .long)]
def wsL_law0_r9 : List Cond := [Cond.methodLink RL 69 yX4_get, Cond.instanceMethod yX4_get, Cond.selects RX4 yX4_get yX4_get, Cond.code yX4_get cX4_get 2 (some .long), Cond.methodLink RL 70 yL_poke, Cond.static yL_poke, Cond.codeWith yL_poke cL_poke 6 (some .int) [(0, 10, 13, 22)], Cond.classLink RL 22 "java/lang/IndexOutOfBoundsException", Cond.methodLink RL 19 yX3_poke, Cond.instanceMethod yX3_poke, Cond.selects RX3 yX3_poke yX3_poke, Cond.code yX3_poke cX3_poke 6 (some .long), Cond.classLink RX3 41 "java/lang/IndexOutOfBoundsException", Cond.initialized "java/lang/IndexOutOfBoundsException", Cond.methodLink RX3 37 yX3_isBeyond, Cond.static yX3_isBeyond, Cond.code yX3_isBeyond cX3_isBeyond 2 (some .boolean), Cond.constantLong RX3 106 (16384), Cond.instanceMethod yX0_load, Cond.selects RX0 yX0_load yX0_load, Cond.code yX0_load cX0_load 4 (some .long), Cond.methodLink RX0 17 yX0_octaOf, Cond.static yX0_octaOf, Cond.code yX0_octaOf cX0_octaOf 2 (some .int)]
def wsL_law0_r10 : List Cond := [Cond.methodLink RX0 21 yX0_shiftOf, Cond.static yX0_shiftOf, Cond.code yX0_shiftOf cX0_shiftOf 4 (some .int), Cond.methodLink RX0 25 yX0_maskOf, Cond.static yX0_maskOf, Cond.code yX0_maskOf cX0_maskOf 1 (some .long), Cond.constantLong RX0 15 (-1), Cond.instanceMethod yX0_store, Cond.selects RX0 yX0_store yX0_store, Cond.code yX0_store cX0_store 9 none, Cond.methodLink RL 72 yX4_poke, Cond.instanceMethod yX4_poke, Cond.selects RX4 yX4_poke yX4_poke, Cond.code yX4_poke cX4_poke 6 (some .long), Cond.methodLink RX4 166 yX4_beyond, Cond.static yX4_beyond, Cond.code yX4_beyond cX4_beyond 2 (some .boolean), Cond.constantLong RX4 156 (16383), Cond.methodLink RX4 170 yX4_m, Cond.instanceMethod yX4_m, Cond.selects RX4 yX4_m yX4_m, Cond.code yX4_m cX4_m 8 (some .long), Cond.methodLink RX4 286 yX4_m_, Cond.instanceMethod yX4_m_]
def wsL_law0_r11 : List Cond := [Cond.selects RX4 yX4_m_ yX4_m_, Cond.code yX4_m_ cX4_m_ 8 none, Cond.methodLink RL 73 yL_peek, Cond.static yL_peek, Cond.codeWith yL_peek cL_peek 4 (some .int) [(0, 8, 11, 22)], Cond.methodLink RL 24 yX3_peek, Cond.instanceMethod yX3_peek, Cond.selects RX3 yX3_peek yX3_peek, Cond.code yX3_peek cX3_peek 2 (some .long), Cond.methodLink RL 75 yX4_peek, Cond.instanceMethod yX4_peek, Cond.selects RX4 yX4_peek yX4_peek, Cond.code yX4_peek cX4_peek 2 (some .long), Cond.methodLink RL 76 yL_at, Cond.static yL_at, Cond.codeWith yL_at cL_at 4 (some .int) [(0, 9, 12, 22)], Cond.methodLink RL 27 yX3_at, Cond.instanceMethod yX3_at, Cond.selects RX3 yX3_at yX3_at, Cond.code yX3_at cX3_at 2 (some .int), Cond.fieldLink RX3 54 "MixBench" "place" "I", Cond.methodLink RL 78 yX4_at, Cond.instanceMethod yX4_at, Cond.selects RX4 yX4_at yX4_at]
def wsL_law0_r12 : List Cond := [Cond.code yX4_at cX4_at 2 (some .int), Cond.fieldLink RX4 308 "MixBenchModel" "place" "I", Cond.methodLink RL 79 yL_put, Cond.static yL_put, Cond.codeWith yL_put cL_put 7 (some .int) [(0, 14, 17, 13), (0, 14, 21, 22)], Cond.methodLink RL 31 yX3_put, Cond.instanceMethod yX3_put, Cond.selects RX3 yX3_put yX3_put, Cond.code yX3_put cX3_put 7 (some .int), Cond.static yX1_opNamed, Cond.initialized RX1, Cond.code yX1_opNamed cX1_opNamed 2 (some .int), Cond.methodLink RX1 7 yX1_singleNamed, Cond.static yX1_singleNamed, Cond.code yX1_singleNamed cX1_singleNamed 3 (some .int), Cond.methodLink RX1 23 yX1_meantBy, Cond.static yX1_meantBy, Cond.code yX1_meantBy cX1_meantBy 4 (some .int), Cond.methodLink RX1 63 yX1_placeOf, Cond.static yX1_placeOf, Cond.code yX1_placeOf cX1_placeOf 6 (some .int), Cond.methodLink RX1 70 yJ0_length_8abf5, Cond.instanceMethod yJ0_length_8abf5, Cond.selects RJ0 yJ0_length_8abf5 yJ0_length_8abf5]
def wsL_law0_r13 : List Cond := [Cond.initialized RJ0, Cond.code yJ0_length_8abf5 cJ0_length_8abf5 1 (some .int), Cond.fieldLink RJ0 9 "java/lang/String" "value" "[B", Cond.methodLink RJ0 335 yJ0_coder_7d493, Cond.instanceMethod yJ0_coder_7d493, Cond.selects RJ0 yJ0_coder_7d493 yJ0_coder_7d493, Cond.code yJ0_coder_7d493 cJ0_coder_7d493 1 (some .byte), Cond.fieldLink RJ0 38 "java/lang/String" "COMPACT_STRINGS" "Z", Cond.fieldLink RJ0 15 "java/lang/String" "coder" "B", Cond.methodLink RX1 76 yJ0_charAt_5068e, Cond.instanceMethod yJ0_charAt_5068e, Cond.selects RJ0 yJ0_charAt_5068e yJ0_charAt_5068e, Cond.code yJ0_charAt_5068e cJ0_charAt_5068e 2 (some .char), Cond.methodLink RJ0 492 yJ0_isLatin1_aae02, Cond.instanceMethod yJ0_isLatin1_aae02, Cond.selects RJ0 yJ0_isLatin1_aae02 yJ0_isLatin1_aae02, Cond.code yJ0_isLatin1_aae02 cJ0_isLatin1_aae02 1 (some .boolean), Cond.methodLink RJ0 495 yJ1_charAt_3b067, Cond.static yJ1_charAt_3b067, Cond.initialized RJ1, Cond.code yJ1_charAt_3b067 cJ1_charAt_3b067 2 (some .char), Cond.methodLink RJ1 9 yJ0_checkIndex_df160, Cond.static yJ0_checkIndex_df160, Cond.code yJ0_checkIndex_df160 cJ0_checkIndex_df160 2 none]
def wsL_law0_r14 : List Cond := [Cond.fieldLink RJ0 1053 "jdk/internal/util/Preconditions" "SIOOBE_FORMATTER" "Ljava/util/function/BiFunction;", Cond.methodLink RJ0 1059 yJ3_checkIndex_8e157, Cond.static yJ3_checkIndex_8e157, Cond.initialized RJ3, Cond.code yJ3_checkIndex_8e157 cJ3_checkIndex_8e157 3 (some .int), Cond.methodLink RJ0 498 yJ2_charAt_3b067, Cond.static yJ2_charAt_3b067, Cond.initialized RJ2, Cond.code yJ2_charAt_3b067 cJ2_charAt_3b067 2 (some .char), Cond.methodLink RJ2 67 yJ2_checkIndex_2214a, Cond.static yJ2_checkIndex_2214a, Cond.code yJ2_checkIndex_2214a cJ2_checkIndex_2214a 2 none, Cond.methodLink RJ2 48 yJ2_length_9d52b, Cond.static yJ2_length_9d52b, Cond.code yJ2_length_9d52b cJ2_length_9d52b 1 (some .int), Cond.methodLink RJ2 414 yJ0_checkIndex_df160, Cond.methodLink RJ2 71 yJ2_getChar_3b067, Cond.static yJ2_getChar_3b067, Cond.code yJ2_getChar_3b067 cJ2_getChar_3b067 2 (some .char), Cond.fieldLink RJ2 44 "java/lang/StringUTF16" "$assertionsDisabled" "Z", Cond.fieldLink RJ2 59 "java/lang/StringUTF16" "HI_BYTE_SHIFT" "I", Cond.fieldLink RJ2 63 "java/lang/StringUTF16" "LO_BYTE_SHIFT" "I", Cond.methodLink RX1 67 yX1_nameAt, Cond.static yX1_nameAt]
def wsL_law0_r15 : List Cond := [Cond.code yX1_nameAt cX1_nameAt 6 (some .int), Cond.methodLink RX1 29 yX1_opInRow, Cond.static yX1_opInRow, Cond.code yX1_opInRow cX1_opInRow 5 (some .int), Cond.methodLink RX1 13 yX1_evenNamed, Cond.static yX1_evenNamed, Cond.code yX1_evenNamed cX1_evenNamed 3 (some .int), Cond.methodLink RX1 16 yX1_oddNamed, Cond.static yX1_oddNamed, Cond.code yX1_oddNamed cX1_oddNamed 4 (some .int), Cond.methodLink RL 82 yX4_put, Cond.instanceMethod yX4_put, Cond.selects RX4 yX4_put yX4_put, Cond.code yX4_put cX4_put 6 (some .int), Cond.methodLink RL 83 yL_go, Cond.static yL_go, Cond.codeWith yL_go cL_go 5 (some .int) [(0, 10, 13, 39)], Cond.classLink RL 39 "java/lang/IllegalArgumentException", Cond.methodLink RL 35 yX3_go, Cond.instanceMethod yX3_go, Cond.selects RX3 yX3_go yX3_go, Cond.code yX3_go cX3_go 5 (some .int), Cond.classLink RX3 68 "java/lang/IllegalArgumentException", Cond.initialized "java/lang/IllegalArgumentException"]
def wsL_law0_r16 : List Cond := [Cond.fieldLink RX3 73 "MixBench" "pc" "J", Cond.methodLink RX3 77 yX3_doNext, Cond.instanceMethod yX3_doNext, Cond.selects RX3 yX3_doNext yX3_doNext, Cond.code yX3_doNext cX3_doNext 7 (some .int), Cond.methodLink RX3 109 yX3_followFetch, Cond.instanceMethod yX3_followFetch, Cond.selects RX3 yX3_followFetch yX3_followFetch, Cond.code yX3_followFetch cX3_followFetch 2 none, Cond.constantLong RX3 138 (31), Cond.fieldLink RX3 98 "MixBench" "trail" "J", Cond.methodLink RX3 117 yX3_byteY, Cond.static yX3_byteY, Cond.code yX3_byteY cX3_byteY 1 (some .int), Cond.methodLink RX3 140 yX3_byteZ, Cond.static yX3_byteZ, Cond.code yX3_byteZ cX3_byteZ 1 (some .int), Cond.methodLink RX3 143 yX3_byteX, Cond.static yX3_byteX, Cond.code yX3_byteX cX3_byteX 1 (some .int), Cond.methodLink RX3 113 yX3_isLegal, Cond.static yX3_isLegal, Cond.code yX3_isLegal cX3_isLegal 2 (some .boolean), Cond.methodLink RX3 124 yX3_opOf]
def wsL_law0_r17 : List Cond := [Cond.static yX3_opOf, Cond.code yX3_opOf cX3_opOf 1 (some .int), Cond.methodLink RX3 120 yX3_operandZ, Cond.instanceMethod yX3_operandZ, Cond.selects RX3 yX3_operandZ yX3_operandZ, Cond.code yX3_operandZ cX3_operandZ 4 (some .long), Cond.methodLink RX3 127 yX3_isLoadOrStore, Cond.static yX3_isLoadOrStore, Cond.code yX3_isLoadOrStore cX3_isLoadOrStore 1 (some .boolean), Cond.methodLink RX3 146 yX3_isGo, Cond.static yX3_isGo, Cond.code yX3_isGo cX3_isGo 1 (some .boolean), Cond.methodLink RX3 130 yX3_bill, Cond.instanceMethod yX3_bill, Cond.selects RX3 yX3_bill yX3_bill, Cond.code yX3_bill cX3_bill 3 none, Cond.fieldLink RX3 101 "MixBench" "lastTally" "J", Cond.fieldLink RX3 87 "MixBench" "oops" "J", Cond.fieldLink RX3 95 "MixBench" "mems" "J", Cond.methodLink RX3 149 yX3_leastOops, Cond.static yX3_leastOops, Cond.code yX3_leastOops cX3_leastOops 1 (some .int), Cond.methodLink RX3 134 yX3_perform, Cond.instanceMethod yX3_perform]
def wsL_law0_r18 : List Cond := [Cond.selects RX3 yX3_perform yX3_perform, Cond.code yX3_perform cX3_perform 9 none, Cond.constantLong RX3 152 (4), Cond.methodLink RX3 154 yX3_trap, Cond.instanceMethod yX3_trap, Cond.selects RX3 yX3_trap yX3_trap, Cond.code yX3_trap cX3_trap 4 none, Cond.fieldLink RX3 90 "MixBench" "outputLength" "I", Cond.methodLink RX3 158 yX3_productOrQuotient, Cond.instanceMethod yX3_productOrQuotient, Cond.selects RX3 yX3_productOrQuotient yX3_productOrQuotient, Cond.code yX3_productOrQuotient cX3_productOrQuotient 6 (some .long), Cond.constantLong RX3 199 (64), Cond.static yX2_highOfSignedProduct, Cond.initialized RX2, Cond.code yX2_highOfSignedProduct cX2_highOfSignedProduct 4 (some .long), Cond.methodLink RX2 13 yX2_highOfProduct, Cond.static yX2_highOfProduct, Cond.code yX2_highOfProduct cX2_highOfProduct 16 (some .long), Cond.constantLong RX2 11 (4294967295), Cond.methodLink RX3 205 yX3_raise, Cond.instanceMethod yX3_raise, Cond.selects RX3 yX3_raise yX3_raise, Cond.code yX3_raise cX3_raise 4 none]
def wsL_law0_r19 : List Cond := [Cond.methodLink RX3 212 yX3_quotient, Cond.instanceMethod yX3_quotient, Cond.selects RX3 yX3_quotient yX3_quotient, Cond.code yX3_quotient cX3_quotient 7 (some .long), Cond.constantLong RX3 219 (128), Cond.constantLong RX3 221 (-9223372036854775808), Cond.constantLong RX3 104 (-1), Cond.methodLink RX3 223 yJ9_floorDiv_f86c9, Cond.static yJ9_floorDiv_f86c9, Cond.initialized RJ9, Cond.code yJ9_floorDiv_f86c9 cJ9_floorDiv_f86c9 6 (some .long), Cond.methodLink RX3 215 yX3_longQuotient, Cond.instanceMethod yX3_longQuotient, Cond.selects RX3 yX3_longQuotient yX3_longQuotient, Cond.code yX3_longQuotient cX3_longQuotient 13 (some .long), Cond.static yX2_isAbove, Cond.code yX2_isAbove cX2_isAbove 4 (some .boolean), Cond.constantLong RX2 9 (-9223372036854775808), Cond.methodLink RX3 162 yX3_writeX, Cond.instanceMethod yX3_writeX, Cond.selects RX3 yX3_writeX yX3_writeX, Cond.code yX3_writeX cX3_writeX 5 none, Cond.constantLong RX3 197 (37), Cond.methodLink RX3 165 yX3_sumOrDifference]
def wsL_law0_r20 : List Cond := [Cond.instanceMethod yX3_sumOrDifference, Cond.selects RX3 yX3_sumOrDifference yX3_sumOrDifference, Cond.code yX3_sumOrDifference cX3_sumOrDifference 6 (some .long), Cond.methodLink RX3 232 yX3_checkedSum, Cond.instanceMethod yX3_checkedSum, Cond.selects RX3 yX3_checkedSum yX3_checkedSum, Cond.code yX3_checkedSum cX3_checkedSum 7 (some .long), Cond.methodLink RX3 235 yX3_checkedDifference, Cond.instanceMethod yX3_checkedDifference, Cond.selects RX3 yX3_checkedDifference yX3_checkedDifference, Cond.code yX3_checkedDifference cX3_checkedDifference 7 (some .long), Cond.methodLink RX3 168 yX3_comparedOrShifted, Cond.instanceMethod yX3_comparedOrShifted, Cond.selects RX3 yX3_comparedOrShifted yX3_comparedOrShifted, Cond.code yX3_comparedOrShifted cX3_comparedOrShifted 6 (some .long), Cond.methodLink RX3 238 yX3_checkedShift, Cond.instanceMethod yX3_checkedShift, Cond.selects RX3 yX3_checkedShift yX3_checkedShift, Cond.code yX3_checkedShift cX3_checkedShift 7 (some .long), Cond.static yX2_shiftLeft, Cond.code yX2_shiftLeft cX2_shiftLeft 4 (some .long), Cond.methodLink RX2 21 yX2_isWholeShift, Cond.static yX2_isWholeShift, Cond.code yX2_isWholeShift cX2_isWholeShift 2 (some .boolean)]
def wsL_law0_r21 : List Cond := [Cond.constantLong RX2 19 (64), Cond.static yX2_shiftRight, Cond.code yX2_shiftRight cX2_shiftRight 4 (some .long), Cond.static yX2_shiftRightUnsigned, Cond.code yX2_shiftRightUnsigned cX2_shiftRightUnsigned 4 (some .long), Cond.methodLink RX3 171 yX3_branch, Cond.instanceMethod yX3_branch, Cond.selects RX3 yX3_branch yX3_branch, Cond.code yX3_branch cX3_branch 7 none, Cond.constantLong RX3 254 (2), Cond.methodLink RX3 250 yX3_holds, Cond.static yX3_holds, Cond.code yX3_holds cX3_holds 3 (some .boolean), Cond.methodLink RX3 256 yX3_relative, Cond.static yX3_relative, Cond.code yX3_relative cX3_relative 4 (some .long), Cond.constant RX3 263 (65536), Cond.methodLink RX3 260 yX3_wydeYZ, Cond.static yX3_wydeYZ, Cond.code yX3_wydeYZ cX3_wydeYZ 1 (some .int), Cond.constant RX3 108 (65535), Cond.methodLink RX3 174 yX3_choose, Cond.instanceMethod yX3_choose, Cond.selects RX3 yX3_choose yX3_choose]
def wsL_law0_r22 : List Cond := [Cond.code yX3_choose cX3_choose 7 none, Cond.methodLink RX3 177 yX3_loadOrGo, Cond.instanceMethod yX3_loadOrGo, Cond.selects RX3 yX3_loadOrGo yX3_loadOrGo, Cond.code yX3_loadOrGo cX3_loadOrGo 9 none, Cond.constantLong RX3 264 (-4), Cond.methodLink RX3 266 yX3_sizeOf, Cond.static yX3_sizeOf, Cond.code yX3_sizeOf cX3_sizeOf 1 (some .int), Cond.methodLink RX3 269 yX3_isUnsigned, Cond.static yX3_isUnsigned, Cond.code yX3_isUnsigned cX3_isUnsigned 1 (some .boolean), Cond.static yX2_signed, Cond.code yX2_signed cX2_signed 4 (some .long), Cond.methodLink RX3 180 yX3_storeX, Cond.instanceMethod yX3_storeX, Cond.selects RX3 yX3_storeX yX3_storeX, Cond.code yX3_storeX cX3_storeX 7 none, Cond.static yX2_bitwise, Cond.code yX2_bitwise cX2_bitwise 5 (some .long), Cond.constantLong RX2 25 (-1), Cond.methodLink RX3 188 yX3_bytewise, Cond.instanceMethod yX3_bytewise, Cond.selects RX3 yX3_bytewise yX3_bytewise]
def wsL_law0_r23 : List Cond := [Cond.code yX3_bytewise cX3_bytewise 6 (some .long), Cond.static yX2_differences, Cond.code yX2_differences cX2_differences 14 (some .long), Cond.methodLink RX2 27 yX2_isAbove, Cond.methodLink RX3 279 yJ13_bitCount_95d88, Cond.static yJ13_bitCount_95d88, Cond.initialized RJ13, Cond.code yJ13_bitCount_95d88 cJ13_bitCount_95d88 2 (some .int), Cond.constantLong RJ13 314 (6148914691236517205), Cond.constantLong RJ13 316 (3689348814741910323), Cond.constantLong RJ13 318 (1085102592571150095), Cond.static yX2_matrixProduct, Cond.code yX2_matrixProduct cX2_matrixProduct 12 (some .long), Cond.constantLong RX2 31 (72340172838076673), Cond.constantLong RX2 33 (255), Cond.methodLink RX3 191 yX3_withWyde, Cond.instanceMethod yX3_withWyde, Cond.selects RX3 yX3_withWyde yX3_withWyde, Cond.code yX3_withWyde cX3_withWyde 7 (some .long), Cond.methodLink RX3 194 yX3_performRest, Cond.instanceMethod yX3_performRest, Cond.selects RX3 yX3_performRest yX3_performRest, Cond.code yX3_performRest cX3_performRest 7 none, Cond.constant RX3 289 (16777215)]
def wsL_law0_r24 : List Cond := [Cond.constant RX3 290 (16777216), Cond.methodLink RL 86 yX4_go, Cond.instanceMethod yX4_go, Cond.selects RX4 yX4_go yX4_go, Cond.code yX4_go cX4_go 5 (some .int), Cond.fieldLink RX4 162 "MixBenchModel" "pc" "J", Cond.methodLink RX4 311 yX4_step, Cond.instanceMethod yX4_step, Cond.selects RX4 yX4_step yX4_step, Cond.code yX4_step cX4_step 7 (some .int), Cond.constantLong RX4 174 (31), Cond.fieldLink RX4 176 "MixBenchModel" "trail" "J", Cond.constant RX4 179 (65535), Cond.fieldLink RX4 201 "MixBenchModel" "last" "J", Cond.fieldLink RX4 204 "MixBenchModel" "oops" "J", Cond.constantLong RX4 207 (10), Cond.constantLong RX4 209 (60), Cond.constantLong RX4 211 (3), Cond.constantLong RX4 213 (5), Cond.fieldLink RX4 215 "MixBenchModel" "late" "Z", Cond.methodLink RX4 180 yX4_branch, Cond.instanceMethod yX4_branch, Cond.selects RX4 yX4_branch yX4_branch, Cond.code yX4_branch cX4_branch 5 (some .int)]
def wsL_law0_r25 : List Cond := [Cond.constantLong RX4 223 (4), Cond.constantLong RX4 225 (-4), Cond.constant RX4 227 (65536), Cond.methodLink RX4 219 yX4_holds, Cond.static yX4_holds, Cond.code yX4_holds cX4_holds 3 (some .boolean), Cond.methodLink RX4 184 yX4_low, Cond.instanceMethod yX4_low, Cond.selects RX4 yX4_low yX4_low, Cond.code yX4_low cX4_low 11 (some .int), Cond.constantLong RX4 255 (2), Cond.constantLong RX4 257 (8), Cond.constantLong RX4 259 (16), Cond.constantLong RX4 261 (-1), Cond.constantLong RX4 267 (63), Cond.methodLink RX4 234 yX4_trap, Cond.instanceMethod yX4_trap, Cond.selects RX4 yX4_trap yX4_trap, Cond.code yX4_trap cX4_trap 4 (some .int), Cond.fieldLink RX4 277 "MixBenchModel" "outputs" "I", Cond.methodLink RX4 237 yX4_number, Cond.instanceMethod yX4_number, Cond.selects RX4 yX4_number yX4_number, Cond.code yX4_number cX4_number 3 (some .long)]
def wsL_law0_r26 : List Cond := [Cond.methodLink RX4 241 yX4_upper, Cond.static yX4_upper, Cond.code yX4_upper cX4_upper 16 (some .long), Cond.constantLong RX4 273 (4294967295), Cond.methodLink RX4 245 yX4_over, Cond.instanceMethod yX4_over, Cond.selects RX4 yX4_over yX4_over, Cond.code yX4_over cX4_over 2 none, Cond.constantLong RX4 158 (64), Cond.methodLink RX4 249 yX4_quotient, Cond.instanceMethod yX4_quotient, Cond.selects RX4 yX4_quotient yX4_quotient, Cond.code yX4_quotient cX4_quotient 7 (some .long), Cond.constantLong RX4 275 (128), Cond.constantLong RX4 160 (-9223372036854775808), Cond.methodLink RX4 252 yX4_quotientOf, Cond.instanceMethod yX4_quotientOf, Cond.selects RX4 yX4_quotientOf yX4_quotientOf, Cond.code yX4_quotientOf cX4_quotientOf 11 (some .long), Cond.methodLink RX4 263 yX4_above, Cond.static yX4_above, Cond.code yX4_above cX4_above 4 (some .boolean), Cond.methodLink RX4 269 yX4_done, Cond.instanceMethod yX4_done]
def wsL_law0_r27 : List Cond := [Cond.selects RX4 yX4_done yX4_done, Cond.code yX4_done cX4_done 4 (some .int), Cond.constantLong RX4 228 (37), Cond.methodLink RX4 230 yX4_on, Cond.instanceMethod yX4_on, Cond.selects RX4 yX4_on yX4_on, Cond.code yX4_on cX4_on 1 (some .int), Cond.methodLink RX4 188 yX4_choose, Cond.instanceMethod yX4_choose, Cond.selects RX4 yX4_choose yX4_choose, Cond.code yX4_choose cX4_choose 6 (some .int), Cond.methodLink RX4 191 yX4_access, Cond.instanceMethod yX4_access, Cond.selects RX4 yX4_access yX4_access, Cond.code yX4_access cX4_access 13 (some .int), Cond.fieldLink RX4 280 "MixBenchModel" "mems" "J", Cond.methodLink RX4 283 yX4_signed, Cond.static yX4_signed, Cond.code yX4_signed cX4_signed 3 (some .long), Cond.methodLink RX4 194 yX4_bits, Cond.instanceMethod yX4_bits, Cond.selects RX4 yX4_bits yX4_bits, Cond.code yX4_bits cX4_bits 12 (some .int), Cond.methodLink RX4 289 yX4_matrix]
def wsL_law0_r28 : List Cond := [Cond.static yX4_matrix, Cond.code yX4_matrix cX4_matrix 13 (some .long), Cond.constantLong RX4 297 (255), Cond.methodLink RX4 293 yX4_differences, Cond.static yX4_differences, Cond.code yX4_differences cX4_differences 12 (some .long), Cond.methodLink RX4 197 yX4_high, Cond.instanceMethod yX4_high, Cond.selects RX4 yX4_high yX4_high, Cond.code yX4_high cX4_high 12 (some .int), Cond.constant RX4 299 (16777215), Cond.constantLong RX4 300 (16777216), Cond.constantLong RX4 302 (65536), Cond.methodLink RL 87 yX3_mark, Cond.instanceMethod yX3_mark, Cond.selects RX3 yX3_mark yX3_mark, Cond.code yX3_mark cX3_mark 4 (some .long), Cond.constantLong RX3 81 (-7046029254386353131), Cond.methodLink RL 91 yX4_mark, Cond.instanceMethod yX4_mark, Cond.selects RX4 yX4_mark yX4_mark, Cond.code yX4_mark cX4_mark 4 (some .long), Cond.constantLong RX4 314 (-7046029254386353131), Cond.methodLink RL 92 yL_tally]
def wsL_law0_r29 : List Cond := [Cond.static yL_tally, Cond.codeWith yL_tally cL_tally 4 (some .int) [(0, 8, 11, 13)], Cond.methodLink RL 41 yX3_tally, Cond.instanceMethod yX3_tally, Cond.selects RX3 yX3_tally yX3_tally, Cond.code yX3_tally cX3_tally 2 (some .long), Cond.methodLink RL 94 yX4_tally, Cond.instanceMethod yX4_tally, Cond.selects RX4 yX4_tally yX4_tally, Cond.code yX4_tally cX4_tally 2 (some .long), Cond.methodLink RL 95 yL_spend, Cond.static yL_spend, Cond.codeWith yL_spend cL_spend 4 (some .int) [(0, 8, 11, 39)], Cond.methodLink RL 44 yX3_spend, Cond.instanceMethod yX3_spend, Cond.selects RX3 yX3_spend yX3_spend, Cond.code yX3_spend cX3_spend 2 (some .long), Cond.methodLink RL 97 yX4_spend, Cond.instanceMethod yX4_spend, Cond.selects RX4 yX4_spend yX4_spend, Cond.code yX4_spend cX4_spend 2 (some .long), Cond.methodLink RL 98 yL_output, Cond.static yL_output, Cond.codeWith yL_output cL_output 4 (some .int) [(0, 9, 12, 22)]]
def wsL_law0_r30 : List Cond := [Cond.methodLink RL 47 yX3_output, Cond.instanceMethod yX3_output, Cond.selects RX3 yX3_output yX3_output, Cond.code yX3_output cX3_output 2 (some .int), Cond.methodLink RL 100 yX4_output, Cond.instanceMethod yX4_output, Cond.selects RX4 yX4_output yX4_output, Cond.code yX4_output cX4_output 2 (some .int), Cond.methodLink RL 101 yX3_count, Cond.instanceMethod yX3_count, Cond.selects RX3 yX3_count yX3_count, Cond.code yX3_count cX3_count 2 (some .long), Cond.methodLink RL 104 yX4_count, Cond.instanceMethod yX4_count, Cond.selects RX4 yX4_count yX4_count, Cond.code yX4_count cX4_count 2 (some .long)]
def wsL_law0 : List Cond := (wsL_law0_r1 ++ (wsL_law0_r2 ++ (wsL_law0_r3 ++ (wsL_law0_r4 ++ (wsL_law0_r5 ++ (wsL_law0_r6 ++ (wsL_law0_r7 ++ (wsL_law0_r8 ++ (wsL_law0_r9 ++ (wsL_law0_r10 ++ (wsL_law0_r11 ++ (wsL_law0_r12 ++ (wsL_law0_r13 ++ (wsL_law0_r14 ++ (wsL_law0_r15 ++ (wsL_law0_r16 ++ (wsL_law0_r17 ++ (wsL_law0_r18 ++ (wsL_law0_r19 ++ (wsL_law0_r20 ++ (wsL_law0_r21 ++ (wsL_law0_r22 ++ (wsL_law0_r23 ++ (wsL_law0_r24 ++ (wsL_law0_r25 ++ (wsL_law0_r26 ++ (wsL_law0_r27 ++ (wsL_law0_r28 ++ (wsL_law0_r29 ++ wsL_law0_r30))))))))))))))))))))))))))))) ++ wsX30 ++ wsX40 ++ wsX00 ++ ([] : List Cond)
def wsL_law : List Cond := wsL_law0 ++ (vx_atS RX3 34 "java/util/NoSuchElementException" ["java/lang/RuntimeException", "java/lang/Exception"]).filter goodWord ++ (vx_atS RX3 45 "java/lang/IndexOutOfBoundsException" ["java/lang/RuntimeException", "java/lang/Exception"]).filter goodWord ++ (vx_atS RX3 72 "java/lang/IllegalArgumentException" ["java/lang/RuntimeException", "java/lang/Exception"]).filter goodWord
theorem dX0_init_0 : decode cX0_init 0 = .ok (.aload_n 0, 1) := by decide +kernel
theorem dX0_init_1 : decode cX0_init 1 = .ok (.invokespecial 3, 3) := by decide +kernel
theorem dX0_init_4 : decode cX0_init 4 = .ok (.aload_n 0, 1) := by decide +kernel
theorem dX0_init_5 : decode cX0_init 5 = .ok (.sipush 2048, 3) := by decide +kernel
theorem dX0_init_8 : decode cX0_init 8 = .ok (.newarray .long, 2) := by decide +kernel
theorem dX0_init_10 : decode cX0_init 10 = .ok (.putfield 9, 3) := by decide +kernel
theorem dX0_init_13 : decode cX0_init 13 = .ok (.return_, 1) := by decide +kernel
theorem dX0_octaOf_0 : decode cX0_octaOf 0 = .ok (.lload_n 0, 1) := by decide +kernel
theorem dX0_octaOf_1 : decode cX0_octaOf 1 = .ok (.iconst 3, 1) := by decide +kernel
theorem dX0_octaOf_2 : decode cX0_octaOf 2 = .ok (.lshr, 1) := by decide +kernel
theorem dX0_octaOf_3 : decode cX0_octaOf 3 = .ok (.l2i, 1) := by decide +kernel
theorem dX0_octaOf_4 : decode cX0_octaOf 4 = .ok (.sipush 2047, 3) := by decide +kernel
theorem dX0_octaOf_7 : decode cX0_octaOf 7 = .ok (.iand, 1) := by decide +kernel
theorem dX0_octaOf_8 : decode cX0_octaOf 8 = .ok (.ireturn, 1) := by decide +kernel
theorem dX0_shiftOf_0 : decode cX0_shiftOf 0 = .ok (.bipush 8, 2) := by decide +kernel
theorem dX0_shiftOf_2 : decode cX0_shiftOf 2 = .ok (.iload_n 2, 1) := by decide +kernel
theorem dX0_shiftOf_3 : decode cX0_shiftOf 3 = .ok (.isub, 1) := by decide +kernel
theorem dX0_shiftOf_4 : decode cX0_shiftOf 4 = .ok (.istore_n 3, 1) := by decide +kernel
theorem dX0_shiftOf_5 : decode cX0_shiftOf 5 = .ok (.bipush 8, 2) := by decide +kernel
theorem dX0_shiftOf_7 : decode cX0_shiftOf 7 = .ok (.iload_n 3, 1) := by decide +kernel
theorem dX0_shiftOf_8 : decode cX0_shiftOf 8 = .ok (.lload_n 0, 1) := by decide +kernel
theorem dX0_shiftOf_9 : decode cX0_shiftOf 9 = .ok (.iload_n 3, 1) := by decide +kernel
theorem dX0_shiftOf_10 : decode cX0_shiftOf 10 = .ok (.i2l, 1) := by decide +kernel
theorem dX0_shiftOf_11 : decode cX0_shiftOf 11 = .ok (.land, 1) := by decide +kernel
theorem dX0_shiftOf_12 : decode cX0_shiftOf 12 = .ok (.l2i, 1) := by decide +kernel
theorem dX0_shiftOf_13 : decode cX0_shiftOf 13 = .ok (.isub, 1) := by decide +kernel
theorem dX0_shiftOf_14 : decode cX0_shiftOf 14 = .ok (.imul, 1) := by decide +kernel
theorem dX0_shiftOf_15 : decode cX0_shiftOf 15 = .ok (.ireturn, 1) := by decide +kernel
theorem dX0_maskOf_0 : decode cX0_maskOf 0 = .ok (.ldc2_w 15, 3) := by decide +kernel
theorem dX0_maskOf_3 : decode cX0_maskOf 3 = .ok (.bipush 64, 2) := by decide +kernel
theorem dX0_maskOf_5 : decode cX0_maskOf 5 = .ok (.bipush 8, 2) := by decide +kernel
theorem dX0_maskOf_7 : decode cX0_maskOf 7 = .ok (.iload_n 0, 1) := by decide +kernel
theorem dX0_maskOf_8 : decode cX0_maskOf 8 = .ok (.imul, 1) := by decide +kernel
theorem dX0_maskOf_9 : decode cX0_maskOf 9 = .ok (.isub, 1) := by decide +kernel
theorem dX0_maskOf_10 : decode cX0_maskOf 10 = .ok (.lushr, 1) := by decide +kernel
theorem dX0_maskOf_11 : decode cX0_maskOf 11 = .ok (.lreturn, 1) := by decide +kernel
set_option maxRecDepth 20000 in
theorem ggX0_load_X0_octaOf : GoodIn wsX0_load wsX0_octaOf := goodIn_r _ [5] (by decide +kernel) (by decide +kernel)
set_option maxRecDepth 20000 in
theorem gX0_load_X0_octaOf : GoodIn wsX0_load (va_wsS RX0 17 yX0_octaOf wsX0_octaOf) := goodIn_app (goodIn_of _ (by decide +kernel)) ggX0_load_X0_octaOf
set_option maxRecDepth 20000 in
theorem ggX0_load_X0_shiftOf : GoodIn wsX0_load wsX0_shiftOf := goodIn_r _ [8] (by decide +kernel) (by decide +kernel)
set_option maxRecDepth 20000 in
theorem gX0_load_X0_shiftOf : GoodIn wsX0_load (va_wsS RX0 21 yX0_shiftOf wsX0_shiftOf) := goodIn_app (goodIn_of _ (by decide +kernel)) ggX0_load_X0_shiftOf
set_option maxRecDepth 20000 in
theorem ggX0_load_X0_maskOf : GoodIn wsX0_load wsX0_maskOf := goodIn_r _ [11, 12] (by decide +kernel) (by decide +kernel)
set_option maxRecDepth 20000 in
theorem gX0_load_X0_maskOf : GoodIn wsX0_load (va_wsS RX0 25 yX0_maskOf wsX0_maskOf) := goodIn_app (goodIn_of _ (by decide +kernel)) ggX0_load_X0_maskOf
theorem dX0_load_0 : decode cX0_load 0 = .ok (.aload_n 0, 1) := by decide +kernel
theorem dX0_load_1 : decode cX0_load 1 = .ok (.getfield 9, 3) := by decide +kernel
theorem dX0_load_4 : decode cX0_load 4 = .ok (.lload_n 1, 1) := by decide +kernel
theorem dX0_load_5 : decode cX0_load 5 = .ok (.invokestatic 17, 3) := by decide +kernel
theorem dX0_load_8 : decode cX0_load 8 = .ok (.laload, 1) := by decide +kernel
theorem dX0_load_9 : decode cX0_load 9 = .ok (.lload_n 1, 1) := by decide +kernel
theorem dX0_load_10 : decode cX0_load 10 = .ok (.iload_n 3, 1) := by decide +kernel
theorem dX0_load_11 : decode cX0_load 11 = .ok (.invokestatic 21, 3) := by decide +kernel
theorem dX0_load_14 : decode cX0_load 14 = .ok (.lushr, 1) := by decide +kernel
theorem dX0_load_15 : decode cX0_load 15 = .ok (.iload_n 3, 1) := by decide +kernel
theorem dX0_load_16 : decode cX0_load 16 = .ok (.invokestatic 25, 3) := by decide +kernel
theorem dX0_load_19 : decode cX0_load 19 = .ok (.land, 1) := by decide +kernel
theorem dX0_load_20 : decode cX0_load 20 = .ok (.lreturn, 1) := by decide +kernel
set_option maxRecDepth 20000 in
theorem ggX0_store_X0_shiftOf : GoodIn wsX0_store wsX0_shiftOf := goodIn_r _ [6] (by decide +kernel) (by decide +kernel)
set_option maxRecDepth 20000 in
theorem gX0_store_X0_shiftOf : GoodIn wsX0_store (va_wsS RX0 21 yX0_shiftOf wsX0_shiftOf) := goodIn_app (goodIn_of _ (by decide +kernel)) ggX0_store_X0_shiftOf
set_option maxRecDepth 20000 in
theorem ggX0_store_X0_octaOf : GoodIn wsX0_store wsX0_octaOf := goodIn_r _ [9] (by decide +kernel) (by decide +kernel)
set_option maxRecDepth 20000 in
theorem gX0_store_X0_octaOf : GoodIn wsX0_store (va_wsS RX0 17 yX0_octaOf wsX0_octaOf) := goodIn_app (goodIn_of _ (by decide +kernel)) ggX0_store_X0_octaOf
set_option maxRecDepth 20000 in
theorem ggX0_store_X0_maskOf : GoodIn wsX0_store wsX0_maskOf := goodIn_r _ [12, 2] (by decide +kernel) (by decide +kernel)
set_option maxRecDepth 20000 in
theorem gX0_store_X0_maskOf : GoodIn wsX0_store (va_wsS RX0 25 yX0_maskOf wsX0_maskOf) := goodIn_app (goodIn_of _ (by decide +kernel)) ggX0_store_X0_maskOf
theorem dX0_store_0 : decode cX0_store 0 = .ok (.lload_n 1, 1) := by decide +kernel
theorem dX0_store_1 : decode cX0_store 1 = .ok (.iload_n 3, 1) := by decide +kernel
theorem dX0_store_2 : decode cX0_store 2 = .ok (.invokestatic 21, 3) := by decide +kernel
theorem dX0_store_5 : decode cX0_store 5 = .ok (.istore 6, 2) := by decide +kernel
theorem dX0_store_7 : decode cX0_store 7 = .ok (.aload_n 0, 1) := by decide +kernel
theorem dX0_store_8 : decode cX0_store 8 = .ok (.getfield 9, 3) := by decide +kernel
theorem dX0_store_11 : decode cX0_store 11 = .ok (.lload_n 1, 1) := by decide +kernel
theorem dX0_store_12 : decode cX0_store 12 = .ok (.invokestatic 17, 3) := by decide +kernel
theorem dX0_store_15 : decode cX0_store 15 = .ok (.laload, 1) := by decide +kernel
theorem dX0_store_16 : decode cX0_store 16 = .ok (.iload_n 3, 1) := by decide +kernel
theorem dX0_store_17 : decode cX0_store 17 = .ok (.invokestatic 25, 3) := by decide +kernel
theorem dX0_store_20 : decode cX0_store 20 = .ok (.iload 6, 2) := by decide +kernel
theorem dX0_store_22 : decode cX0_store 22 = .ok (.lshl, 1) := by decide +kernel
theorem dX0_store_23 : decode cX0_store 23 = .ok (.ldc2_w 15, 3) := by decide +kernel
theorem dX0_store_26 : decode cX0_store 26 = .ok (.lxor, 1) := by decide +kernel
theorem dX0_store_27 : decode cX0_store 27 = .ok (.land, 1) := by decide +kernel
theorem dX0_store_28 : decode cX0_store 28 = .ok (.lstore 7, 2) := by decide +kernel
theorem dX0_store_30 : decode cX0_store 30 = .ok (.aload_n 0, 1) := by decide +kernel
theorem dX0_store_31 : decode cX0_store 31 = .ok (.getfield 9, 3) := by decide +kernel
theorem dX0_store_34 : decode cX0_store 34 = .ok (.lload_n 1, 1) := by decide +kernel
theorem dX0_store_35 : decode cX0_store 35 = .ok (.invokestatic 17, 3) := by decide +kernel
theorem dX0_store_38 : decode cX0_store 38 = .ok (.lload 7, 2) := by decide +kernel
theorem dX0_store_40 : decode cX0_store 40 = .ok (.lload 4, 2) := by decide +kernel
theorem dX0_store_42 : decode cX0_store 42 = .ok (.iload_n 3, 1) := by decide +kernel
theorem dX0_store_43 : decode cX0_store 43 = .ok (.invokestatic 25, 3) := by decide +kernel
theorem dX0_store_46 : decode cX0_store 46 = .ok (.land, 1) := by decide +kernel
theorem dX0_store_47 : decode cX0_store 47 = .ok (.iload 6, 2) := by decide +kernel
theorem dX0_store_49 : decode cX0_store 49 = .ok (.lshl, 1) := by decide +kernel
theorem dX0_store_50 : decode cX0_store 50 = .ok (.lor, 1) := by decide +kernel
theorem dX0_store_51 : decode cX0_store 51 = .ok (.lastore, 1) := by decide +kernel
theorem dX0_store_52 : decode cX0_store 52 = .ok (.return_, 1) := by decide +kernel
set_option maxRecDepth 20000 in
theorem ggX1_opNamed_X1_singleNamed : GoodIn wsX1_opNamed wsX1_singleNamed := goodIn_r _ [4, 5, 6, 3, 7, 8, 9, 10, 11, 12, 13, 14, 15, 16, 17, 18, 19, 20, 21, 22, 23, 24, 25, 26, 27, 28, 29, 30, 31, 32, 33, 34, 35, 36, 37, 38, 39, 40, 41, 42, 43, 44, 45, 46, 47, 48, 49, 50, 51, 52, 53, 54, 55, 56, 57, 58, 59, 60, 61, 62, 63, 64, 65] (by decide +kernel) (by decide +kernel)
set_option maxRecDepth 20000 in
theorem gX1_opNamed_X1_singleNamed : GoodIn wsX1_opNamed (va_wsS RX1 7 yX1_singleNamed wsX1_singleNamed) := goodIn_app (goodIn_of _ (by decide +kernel)) ggX1_opNamed_X1_singleNamed
set_option maxRecDepth 20000 in
theorem ggX1_opNamed_X1_evenNamed : GoodIn wsX1_opNamed wsX1_evenNamed := goodIn_r _ [68, 5, 6, 3, 7, 8, 9, 10, 11, 12, 13, 14, 15, 16, 17, 18, 19, 20, 21, 22, 23, 24, 25, 26, 27, 28, 29, 30, 31, 32, 33, 34, 35, 36, 37, 38, 39, 40, 41, 42, 43, 44, 45, 46, 47, 48, 49, 50, 51, 52, 53, 54, 55, 56, 57, 58, 59, 60, 61, 62, 63, 64, 65] (by decide +kernel) (by decide +kernel)
set_option maxRecDepth 20000 in
theorem gX1_opNamed_X1_evenNamed : GoodIn wsX1_opNamed (va_wsS RX1 13 yX1_evenNamed wsX1_evenNamed) := goodIn_app (goodIn_of _ (by decide +kernel)) ggX1_opNamed_X1_evenNamed
set_option maxRecDepth 20000 in
theorem ggX1_opNamed_X1_oddNamed : GoodIn wsX1_opNamed wsX1_oddNamed := goodIn_r _ [71, 66, 67, 3, 68, 5, 6, 7, 8, 9, 10, 11, 12, 13, 14, 15, 16, 17, 18, 19, 20, 21, 22, 23, 24, 25, 26, 27, 28, 29, 30, 31, 32, 33, 34, 35, 36, 37, 38, 39, 40, 41, 42, 43, 44, 45, 46, 47, 48, 49, 50, 51, 52, 53, 54, 55, 56, 57, 58, 59, 60, 61, 62, 63, 64, 65] (by decide +kernel) (by decide +kernel)
set_option maxRecDepth 20000 in
theorem gX1_opNamed_X1_oddNamed : GoodIn wsX1_opNamed (va_wsS RX1 16 yX1_oddNamed wsX1_oddNamed) := goodIn_app (goodIn_of _ (by decide +kernel)) ggX1_opNamed_X1_oddNamed
theorem dX1_opNamed_0 : decode cX1_opNamed 0 = .ok (.iload_n 0, 1) := by decide +kernel
theorem dX1_opNamed_1 : decode cX1_opNamed 1 = .ok (.ifCond .gt 5, 3) := by decide +kernel
theorem dX1_opNamed_4 : decode cX1_opNamed 4 = .ok (.iconst (-1), 1) := by decide +kernel
theorem dX1_opNamed_5 : decode cX1_opNamed 5 = .ok (.ireturn, 1) := by decide +kernel
theorem dX1_opNamed_6 : decode cX1_opNamed 6 = .ok (.iload_n 0, 1) := by decide +kernel
theorem dX1_opNamed_7 : decode cX1_opNamed 7 = .ok (.invokestatic 7, 3) := by decide +kernel
theorem dX1_opNamed_10 : decode cX1_opNamed 10 = .ok (.istore_n 1, 1) := by decide +kernel
theorem dX1_opNamed_11 : decode cX1_opNamed 11 = .ok (.iload_n 1, 1) := by decide +kernel
theorem dX1_opNamed_12 : decode cX1_opNamed 12 = .ok (.ifCond .ge 8, 3) := by decide +kernel
theorem dX1_opNamed_15 : decode cX1_opNamed 15 = .ok (.iload_n 0, 1) := by decide +kernel
theorem dX1_opNamed_16 : decode cX1_opNamed 16 = .ok (.invokestatic 13, 3) := by decide +kernel
theorem dX1_opNamed_19 : decode cX1_opNamed 19 = .ok (.istore_n 1, 1) := by decide +kernel
theorem dX1_opNamed_20 : decode cX1_opNamed 20 = .ok (.iload_n 1, 1) := by decide +kernel
theorem dX1_opNamed_21 : decode cX1_opNamed 21 = .ok (.ifCond .ge 10, 3) := by decide +kernel
theorem dX1_opNamed_24 : decode cX1_opNamed 24 = .ok (.iload_n 0, 1) := by decide +kernel
theorem dX1_opNamed_25 : decode cX1_opNamed 25 = .ok (.invokestatic 16, 3) := by decide +kernel
theorem dX1_opNamed_28 : decode cX1_opNamed 28 = .ok (.goto 4, 3) := by decide +kernel
theorem dX1_opNamed_31 : decode cX1_opNamed 31 = .ok (.iload_n 1, 1) := by decide +kernel
theorem dX1_opNamed_32 : decode cX1_opNamed 32 = .ok (.ireturn, 1) := by decide +kernel
set_option maxRecDepth 20000 in
theorem ggX1_singleNamed_X1_meantBy : GoodIn wsX1_singleNamed wsX1_meantBy := goodIn_r _ [4, 5, 6, 3, 7, 8, 9, 10, 11, 12, 13, 14, 15, 16, 17, 18, 19, 20, 21, 22, 23, 24, 25, 26, 27, 28, 29, 30, 31, 32, 33, 34, 35, 36, 37, 38, 39, 40, 41, 42, 43, 44, 45, 46, 47, 48, 49, 50, 51, 52, 53, 54, 55, 56, 57, 58, 59] (by decide +kernel) (by decide +kernel)
set_option maxRecDepth 20000 in
theorem gX1_singleNamed_X1_meantBy : GoodIn wsX1_singleNamed (va_wsS RX1 23 yX1_meantBy wsX1_meantBy) := goodIn_app (goodIn_of _ (by decide +kernel)) ggX1_singleNamed_X1_meantBy
set_option maxRecDepth 20000 in
theorem ggX1_singleNamed_X1_opInRow : GoodIn wsX1_singleNamed wsX1_opInRow := goodIn_r _ [62, 5, 6, 3, 7, 8, 9, 10, 11, 12, 13, 14, 15, 16, 17, 18, 19, 20, 21, 22, 23, 24, 25, 26, 27, 28, 29, 30, 31, 32, 33, 34, 35, 36, 37, 38, 39, 40, 41, 42, 43, 44, 45, 46, 47, 48, 49, 50, 51, 52, 53, 54, 55, 56] (by decide +kernel) (by decide +kernel)
set_option maxRecDepth 20000 in
theorem gX1_singleNamed_X1_opInRow : GoodIn wsX1_singleNamed (va_wsS RX1 29 yX1_opInRow wsX1_opInRow) := goodIn_app (goodIn_of _ (by decide +kernel)) ggX1_singleNamed_X1_opInRow
theorem dX1_singleNamed_0 : decode cX1_singleNamed 0 = .ok (.iload_n 0, 1) := by decide +kernel
theorem dX1_singleNamed_1 : decode cX1_singleNamed 1 = .ok (.ldc 19, 2) := by decide +kernel
theorem dX1_singleNamed_3 : decode cX1_singleNamed 3 = .ok (.ldc 21, 2) := by decide +kernel
theorem dX1_singleNamed_5 : decode cX1_singleNamed 5 = .ok (.invokestatic 23, 3) := by decide +kernel
theorem dX1_singleNamed_8 : decode cX1_singleNamed 8 = .ok (.istore_n 1, 1) := by decide +kernel
theorem dX1_singleNamed_9 : decode cX1_singleNamed 9 = .ok (.ldc 27, 2) := by decide +kernel
theorem dX1_singleNamed_11 : decode cX1_singleNamed 11 = .ok (.iconst 0, 1) := by decide +kernel
theorem dX1_singleNamed_12 : decode cX1_singleNamed 12 = .ok (.iconst 1, 1) := by decide +kernel
theorem dX1_singleNamed_13 : decode cX1_singleNamed 13 = .ok (.iload_n 1, 1) := by decide +kernel
theorem dX1_singleNamed_14 : decode cX1_singleNamed 14 = .ok (.invokestatic 29, 3) := by decide +kernel
theorem dX1_singleNamed_17 : decode cX1_singleNamed 17 = .ok (.istore_n 2, 1) := by decide +kernel
theorem dX1_singleNamed_18 : decode cX1_singleNamed 18 = .ok (.iload_n 2, 1) := by decide +kernel
theorem dX1_singleNamed_19 : decode cX1_singleNamed 19 = .ok (.ifCond .lt 7, 3) := by decide +kernel
theorem dX1_singleNamed_22 : decode cX1_singleNamed 22 = .ok (.iload_n 2, 1) := by decide +kernel
theorem dX1_singleNamed_23 : decode cX1_singleNamed 23 = .ok (.goto 13, 3) := by decide +kernel
theorem dX1_singleNamed_26 : decode cX1_singleNamed 26 = .ok (.ldc 33, 2) := by decide +kernel
theorem dX1_singleNamed_28 : decode cX1_singleNamed 28 = .ok (.sipush 224, 3) := by decide +kernel
theorem dX1_singleNamed_31 : decode cX1_singleNamed 31 = .ok (.iconst 1, 1) := by decide +kernel
theorem dX1_singleNamed_32 : decode cX1_singleNamed 32 = .ok (.iload_n 1, 1) := by decide +kernel
theorem dX1_singleNamed_33 : decode cX1_singleNamed 33 = .ok (.invokestatic 29, 3) := by decide +kernel
theorem dX1_singleNamed_36 : decode cX1_singleNamed 36 = .ok (.istore_n 2, 1) := by decide +kernel
theorem dX1_singleNamed_37 : decode cX1_singleNamed 37 = .ok (.iload_n 2, 1) := by decide +kernel
theorem dX1_singleNamed_38 : decode cX1_singleNamed 38 = .ok (.ifCond .lt 7, 3) := by decide +kernel
theorem dX1_singleNamed_41 : decode cX1_singleNamed 41 = .ok (.iload_n 2, 1) := by decide +kernel
theorem dX1_singleNamed_42 : decode cX1_singleNamed 42 = .ok (.goto 13, 3) := by decide +kernel
theorem dX1_singleNamed_45 : decode cX1_singleNamed 45 = .ok (.ldc 35, 2) := by decide +kernel
theorem dX1_singleNamed_47 : decode cX1_singleNamed 47 = .ok (.sipush 240, 3) := by decide +kernel
theorem dX1_singleNamed_50 : decode cX1_singleNamed 50 = .ok (.iconst 1, 1) := by decide +kernel
theorem dX1_singleNamed_51 : decode cX1_singleNamed 51 = .ok (.iload_n 1, 1) := by decide +kernel
theorem dX1_singleNamed_52 : decode cX1_singleNamed 52 = .ok (.invokestatic 29, 3) := by decide +kernel
theorem dX1_singleNamed_55 : decode cX1_singleNamed 55 = .ok (.ireturn, 1) := by decide +kernel
set_option maxRecDepth 20000 in
theorem ggX1_evenNamed_X1_meantBy : GoodIn wsX1_evenNamed wsX1_meantBy := goodIn_r _ [4, 5, 6, 3, 7, 8, 9, 10, 11, 12, 13, 14, 15, 16, 17, 18, 19, 20, 21, 22, 23, 24, 25, 26, 27, 28, 29, 30, 31, 32, 33, 34, 35, 36, 37, 38, 39, 40, 41, 42, 43, 44, 45, 46, 47, 48, 49, 50, 51, 52, 53, 54, 55, 56, 57, 58, 59] (by decide +kernel) (by decide +kernel)
set_option maxRecDepth 20000 in
theorem gX1_evenNamed_X1_meantBy : GoodIn wsX1_evenNamed (va_wsS RX1 23 yX1_meantBy wsX1_meantBy) := goodIn_app (goodIn_of _ (by decide +kernel)) ggX1_evenNamed_X1_meantBy
set_option maxRecDepth 20000 in
theorem ggX1_evenNamed_X1_opInRow : GoodIn wsX1_evenNamed wsX1_opInRow := goodIn_r _ [62, 5, 6, 3, 7, 8, 9, 10, 11, 12, 13, 14, 15, 16, 17, 18, 19, 20, 21, 22, 23, 24, 25, 26, 27, 28, 29, 30, 31, 32, 33, 34, 35, 36, 37, 38, 39, 40, 41, 42, 43, 44, 45, 46, 47, 48, 49, 50, 51, 52, 53, 54, 55, 56] (by decide +kernel) (by decide +kernel)
set_option maxRecDepth 20000 in
theorem gX1_evenNamed_X1_opInRow : GoodIn wsX1_evenNamed (va_wsS RX1 29 yX1_opInRow wsX1_opInRow) := goodIn_app (goodIn_of _ (by decide +kernel)) ggX1_evenNamed_X1_opInRow
theorem dX1_evenNamed_0 : decode cX1_evenNamed 0 = .ok (.iload_n 0, 1) := by decide +kernel
theorem dX1_evenNamed_1 : decode cX1_evenNamed 1 = .ok (.ldc 37, 2) := by decide +kernel
theorem dX1_evenNamed_3 : decode cX1_evenNamed 3 = .ok (.ldc 39, 2) := by decide +kernel
theorem dX1_evenNamed_5 : decode cX1_evenNamed 5 = .ok (.invokestatic 23, 3) := by decide +kernel
theorem dX1_evenNamed_8 : decode cX1_evenNamed 8 = .ok (.istore_n 1, 1) := by decide +kernel
theorem dX1_evenNamed_9 : decode cX1_evenNamed 9 = .ok (.ldc 41, 2) := by decide +kernel
theorem dX1_evenNamed_11 : decode cX1_evenNamed 11 = .ok (.bipush 24, 2) := by decide +kernel
theorem dX1_evenNamed_13 : decode cX1_evenNamed 13 = .ok (.iconst 2, 1) := by decide +kernel
theorem dX1_evenNamed_14 : decode cX1_evenNamed 14 = .ok (.iload_n 1, 1) := by decide +kernel
theorem dX1_evenNamed_15 : decode cX1_evenNamed 15 = .ok (.invokestatic 29, 3) := by decide +kernel
theorem dX1_evenNamed_18 : decode cX1_evenNamed 18 = .ok (.istore_n 2, 1) := by decide +kernel
theorem dX1_evenNamed_19 : decode cX1_evenNamed 19 = .ok (.iload_n 2, 1) := by decide +kernel
theorem dX1_evenNamed_20 : decode cX1_evenNamed 20 = .ok (.ifCond .lt 7, 3) := by decide +kernel
theorem dX1_evenNamed_23 : decode cX1_evenNamed 23 = .ok (.iload_n 2, 1) := by decide +kernel
theorem dX1_evenNamed_24 : decode cX1_evenNamed 24 = .ok (.goto 12, 3) := by decide +kernel
theorem dX1_evenNamed_27 : decode cX1_evenNamed 27 = .ok (.ldc 43, 2) := by decide +kernel
theorem dX1_evenNamed_29 : decode cX1_evenNamed 29 = .ok (.bipush 48, 2) := by decide +kernel
theorem dX1_evenNamed_31 : decode cX1_evenNamed 31 = .ok (.iconst 2, 1) := by decide +kernel
theorem dX1_evenNamed_32 : decode cX1_evenNamed 32 = .ok (.iload_n 1, 1) := by decide +kernel
theorem dX1_evenNamed_33 : decode cX1_evenNamed 33 = .ok (.invokestatic 29, 3) := by decide +kernel
theorem dX1_evenNamed_36 : decode cX1_evenNamed 36 = .ok (.istore_n 2, 1) := by decide +kernel
theorem dX1_evenNamed_37 : decode cX1_evenNamed 37 = .ok (.iload_n 2, 1) := by decide +kernel
theorem dX1_evenNamed_38 : decode cX1_evenNamed 38 = .ok (.ifCond .lt 7, 3) := by decide +kernel
theorem dX1_evenNamed_41 : decode cX1_evenNamed 41 = .ok (.iload_n 2, 1) := by decide +kernel
theorem dX1_evenNamed_42 : decode cX1_evenNamed 42 = .ok (.goto 12, 3) := by decide +kernel
theorem dX1_evenNamed_45 : decode cX1_evenNamed 45 = .ok (.ldc 45, 2) := by decide +kernel
theorem dX1_evenNamed_47 : decode cX1_evenNamed 47 = .ok (.bipush 64, 2) := by decide +kernel
theorem dX1_evenNamed_49 : decode cX1_evenNamed 49 = .ok (.iconst 2, 1) := by decide +kernel
theorem dX1_evenNamed_50 : decode cX1_evenNamed 50 = .ok (.iload_n 1, 1) := by decide +kernel
theorem dX1_evenNamed_51 : decode cX1_evenNamed 51 = .ok (.invokestatic 29, 3) := by decide +kernel
theorem dX1_evenNamed_54 : decode cX1_evenNamed 54 = .ok (.istore_n 2, 1) := by decide +kernel
theorem dX1_evenNamed_55 : decode cX1_evenNamed 55 = .ok (.iload_n 2, 1) := by decide +kernel
theorem dX1_evenNamed_56 : decode cX1_evenNamed 56 = .ok (.ifCond .lt 7, 3) := by decide +kernel
theorem dX1_evenNamed_59 : decode cX1_evenNamed 59 = .ok (.iload_n 2, 1) := by decide +kernel
theorem dX1_evenNamed_60 : decode cX1_evenNamed 60 = .ok (.goto 12, 3) := by decide +kernel
theorem dX1_evenNamed_63 : decode cX1_evenNamed 63 = .ok (.ldc 47, 2) := by decide +kernel
theorem dX1_evenNamed_65 : decode cX1_evenNamed 65 = .ok (.bipush 64, 2) := by decide +kernel
theorem dX1_evenNamed_67 : decode cX1_evenNamed 67 = .ok (.iconst 2, 1) := by decide +kernel
theorem dX1_evenNamed_68 : decode cX1_evenNamed 68 = .ok (.iload_n 1, 1) := by decide +kernel
theorem dX1_evenNamed_69 : decode cX1_evenNamed 69 = .ok (.invokestatic 29, 3) := by decide +kernel
theorem dX1_evenNamed_72 : decode cX1_evenNamed 72 = .ok (.istore_n 2, 1) := by decide +kernel
theorem dX1_evenNamed_73 : decode cX1_evenNamed 73 = .ok (.iload_n 2, 1) := by decide +kernel
theorem dX1_evenNamed_74 : decode cX1_evenNamed 74 = .ok (.ifCond .lt 7, 3) := by decide +kernel
theorem dX1_evenNamed_77 : decode cX1_evenNamed 77 = .ok (.iload_n 2, 1) := by decide +kernel
theorem dX1_evenNamed_78 : decode cX1_evenNamed 78 = .ok (.goto 12, 3) := by decide +kernel
theorem dX1_evenNamed_81 : decode cX1_evenNamed 81 = .ok (.ldc 49, 2) := by decide +kernel
theorem dX1_evenNamed_83 : decode cX1_evenNamed 83 = .ok (.bipush 96, 2) := by decide +kernel
theorem dX1_evenNamed_85 : decode cX1_evenNamed 85 = .ok (.iconst 2, 1) := by decide +kernel
theorem dX1_evenNamed_86 : decode cX1_evenNamed 86 = .ok (.iload_n 1, 1) := by decide +kernel
theorem dX1_evenNamed_87 : decode cX1_evenNamed 87 = .ok (.invokestatic 29, 3) := by decide +kernel
theorem dX1_evenNamed_90 : decode cX1_evenNamed 90 = .ok (.istore_n 2, 1) := by decide +kernel
theorem dX1_evenNamed_91 : decode cX1_evenNamed 91 = .ok (.iload_n 2, 1) := by decide +kernel
theorem dX1_evenNamed_92 : decode cX1_evenNamed 92 = .ok (.ifCond .lt 7, 3) := by decide +kernel
theorem dX1_evenNamed_95 : decode cX1_evenNamed 95 = .ok (.iload_n 2, 1) := by decide +kernel
theorem dX1_evenNamed_96 : decode cX1_evenNamed 96 = .ok (.goto 12, 3) := by decide +kernel
theorem dX1_evenNamed_99 : decode cX1_evenNamed 99 = .ok (.ldc 51, 2) := by decide +kernel
theorem dX1_evenNamed_101 : decode cX1_evenNamed 101 = .ok (.bipush 96, 2) := by decide +kernel
theorem dX1_evenNamed_103 : decode cX1_evenNamed 103 = .ok (.iconst 2, 1) := by decide +kernel
theorem dX1_evenNamed_104 : decode cX1_evenNamed 104 = .ok (.iload_n 1, 1) := by decide +kernel
theorem dX1_evenNamed_105 : decode cX1_evenNamed 105 = .ok (.invokestatic 29, 3) := by decide +kernel
theorem dX1_evenNamed_108 : decode cX1_evenNamed 108 = .ok (.istore_n 2, 1) := by decide +kernel
theorem dX1_evenNamed_109 : decode cX1_evenNamed 109 = .ok (.iload_n 2, 1) := by decide +kernel
theorem dX1_evenNamed_110 : decode cX1_evenNamed 110 = .ok (.ifCond .lt 7, 3) := by decide +kernel
theorem dX1_evenNamed_113 : decode cX1_evenNamed 113 = .ok (.iload_n 2, 1) := by decide +kernel
theorem dX1_evenNamed_114 : decode cX1_evenNamed 114 = .ok (.goto 13, 3) := by decide +kernel
theorem dX1_evenNamed_117 : decode cX1_evenNamed 117 = .ok (.ldc 53, 2) := by decide +kernel
theorem dX1_evenNamed_119 : decode cX1_evenNamed 119 = .ok (.sipush 128, 3) := by decide +kernel
theorem dX1_evenNamed_122 : decode cX1_evenNamed 122 = .ok (.iconst 2, 1) := by decide +kernel
theorem dX1_evenNamed_123 : decode cX1_evenNamed 123 = .ok (.iload_n 1, 1) := by decide +kernel
theorem dX1_evenNamed_124 : decode cX1_evenNamed 124 = .ok (.invokestatic 29, 3) := by decide +kernel
theorem dX1_evenNamed_127 : decode cX1_evenNamed 127 = .ok (.istore_n 2, 1) := by decide +kernel
theorem dX1_evenNamed_128 : decode cX1_evenNamed 128 = .ok (.iload_n 2, 1) := by decide +kernel
theorem dX1_evenNamed_129 : decode cX1_evenNamed 129 = .ok (.ifCond .lt 7, 3) := by decide +kernel
theorem dX1_evenNamed_132 : decode cX1_evenNamed 132 = .ok (.iload_n 2, 1) := by decide +kernel
theorem dX1_evenNamed_133 : decode cX1_evenNamed 133 = .ok (.goto 13, 3) := by decide +kernel
theorem dX1_evenNamed_136 : decode cX1_evenNamed 136 = .ok (.ldc 55, 2) := by decide +kernel
theorem dX1_evenNamed_138 : decode cX1_evenNamed 138 = .ok (.sipush 128, 3) := by decide +kernel
theorem dX1_evenNamed_141 : decode cX1_evenNamed 141 = .ok (.iconst 2, 1) := by decide +kernel
theorem dX1_evenNamed_142 : decode cX1_evenNamed 142 = .ok (.iload_n 1, 1) := by decide +kernel
theorem dX1_evenNamed_143 : decode cX1_evenNamed 143 = .ok (.invokestatic 29, 3) := by decide +kernel
theorem dX1_evenNamed_146 : decode cX1_evenNamed 146 = .ok (.istore_n 2, 1) := by decide +kernel
theorem dX1_evenNamed_147 : decode cX1_evenNamed 147 = .ok (.iload_n 2, 1) := by decide +kernel
theorem dX1_evenNamed_148 : decode cX1_evenNamed 148 = .ok (.ifCond .lt 7, 3) := by decide +kernel
theorem dX1_evenNamed_151 : decode cX1_evenNamed 151 = .ok (.iload_n 2, 1) := by decide +kernel
theorem dX1_evenNamed_152 : decode cX1_evenNamed 152 = .ok (.goto 13, 3) := by decide +kernel
theorem dX1_evenNamed_155 : decode cX1_evenNamed 155 = .ok (.ldc 57, 2) := by decide +kernel
theorem dX1_evenNamed_157 : decode cX1_evenNamed 157 = .ok (.sipush 160, 3) := by decide +kernel
theorem dX1_evenNamed_160 : decode cX1_evenNamed 160 = .ok (.iconst 2, 1) := by decide +kernel
theorem dX1_evenNamed_161 : decode cX1_evenNamed 161 = .ok (.iload_n 1, 1) := by decide +kernel
theorem dX1_evenNamed_162 : decode cX1_evenNamed 162 = .ok (.invokestatic 29, 3) := by decide +kernel
theorem dX1_evenNamed_165 : decode cX1_evenNamed 165 = .ok (.istore_n 2, 1) := by decide +kernel
theorem dX1_evenNamed_166 : decode cX1_evenNamed 166 = .ok (.iload_n 2, 1) := by decide +kernel
theorem dX1_evenNamed_167 : decode cX1_evenNamed 167 = .ok (.ifCond .lt 7, 3) := by decide +kernel
theorem dX1_evenNamed_170 : decode cX1_evenNamed 170 = .ok (.iload_n 2, 1) := by decide +kernel
theorem dX1_evenNamed_171 : decode cX1_evenNamed 171 = .ok (.goto 13, 3) := by decide +kernel
theorem dX1_evenNamed_174 : decode cX1_evenNamed 174 = .ok (.ldc 59, 2) := by decide +kernel
theorem dX1_evenNamed_176 : decode cX1_evenNamed 176 = .ok (.sipush 160, 3) := by decide +kernel
theorem dX1_evenNamed_179 : decode cX1_evenNamed 179 = .ok (.iconst 2, 1) := by decide +kernel
theorem dX1_evenNamed_180 : decode cX1_evenNamed 180 = .ok (.iload_n 1, 1) := by decide +kernel
theorem dX1_evenNamed_181 : decode cX1_evenNamed 181 = .ok (.invokestatic 29, 3) := by decide +kernel
theorem dX1_evenNamed_184 : decode cX1_evenNamed 184 = .ok (.istore_n 2, 1) := by decide +kernel
theorem dX1_evenNamed_185 : decode cX1_evenNamed 185 = .ok (.iload_n 2, 1) := by decide +kernel
theorem dX1_evenNamed_186 : decode cX1_evenNamed 186 = .ok (.ifCond .lt 7, 3) := by decide +kernel
theorem dX1_evenNamed_189 : decode cX1_evenNamed 189 = .ok (.iload_n 2, 1) := by decide +kernel
theorem dX1_evenNamed_190 : decode cX1_evenNamed 190 = .ok (.goto 13, 3) := by decide +kernel
theorem dX1_evenNamed_193 : decode cX1_evenNamed 193 = .ok (.ldc 61, 2) := by decide +kernel
theorem dX1_evenNamed_195 : decode cX1_evenNamed 195 = .ok (.sipush 192, 3) := by decide +kernel
theorem dX1_evenNamed_198 : decode cX1_evenNamed 198 = .ok (.iconst 2, 1) := by decide +kernel
theorem dX1_evenNamed_199 : decode cX1_evenNamed 199 = .ok (.iload_n 1, 1) := by decide +kernel
theorem dX1_evenNamed_200 : decode cX1_evenNamed 200 = .ok (.invokestatic 29, 3) := by decide +kernel
theorem dX1_evenNamed_203 : decode cX1_evenNamed 203 = .ok (.ireturn, 1) := by decide +kernel
set_option maxRecDepth 20000 in
theorem ggX1_oddNamed_X1_evenNamed : GoodIn wsX1_oddNamed wsX1_evenNamed := goodIn_r _ [4, 5, 6, 3, 7, 8, 9, 10, 11, 12, 13, 14, 15, 16, 17, 18, 19, 20, 21, 22, 23, 24, 25, 26, 27, 28, 29, 30, 31, 32, 33, 34, 35, 36, 37, 38, 39, 40, 41, 42, 43, 44, 45, 46, 47, 48, 49, 50, 51, 52, 53, 54, 55, 56, 57, 58, 59, 60, 61, 62, 63, 64, 65] (by decide +kernel) (by decide +kernel)
set_option maxRecDepth 20000 in
theorem gX1_oddNamed_X1_evenNamed : GoodIn wsX1_oddNamed (va_wsS RX1 13 yX1_evenNamed wsX1_evenNamed) := goodIn_app (goodIn_of _ (by decide +kernel)) ggX1_oddNamed_X1_evenNamed
theorem dX1_oddNamed_0 : decode cX1_oddNamed 0 = .ok (.iload_n 0, 1) := by decide +kernel
theorem dX1_oddNamed_1 : decode cX1_oddNamed 1 = .ok (.bipush 27, 2) := by decide +kernel
theorem dX1_oddNamed_3 : decode cX1_oddNamed 3 = .ok (.idiv, 1) := by decide +kernel
theorem dX1_oddNamed_4 : decode cX1_oddNamed 4 = .ok (.invokestatic 13, 3) := by decide +kernel
theorem dX1_oddNamed_7 : decode cX1_oddNamed 7 = .ok (.istore_n 1, 1) := by decide +kernel
theorem dX1_oddNamed_8 : decode cX1_oddNamed 8 = .ok (.iload_n 1, 1) := by decide +kernel
theorem dX1_oddNamed_9 : decode cX1_oddNamed 9 = .ok (.bipush 64, 2) := by decide +kernel
theorem dX1_oddNamed_11 : decode cX1_oddNamed 11 = .ok (.if_icmp .lt 13, 3) := by decide +kernel
theorem dX1_oddNamed_14 : decode cX1_oddNamed 14 = .ok (.iload_n 1, 1) := by decide +kernel
theorem dX1_oddNamed_15 : decode cX1_oddNamed 15 = .ok (.bipush 96, 2) := by decide +kernel
theorem dX1_oddNamed_17 : decode cX1_oddNamed 17 = .ok (.if_icmp .ge 7, 3) := by decide +kernel
theorem dX1_oddNamed_20 : decode cX1_oddNamed 20 = .ok (.iconst 1, 1) := by decide +kernel
theorem dX1_oddNamed_21 : decode cX1_oddNamed 21 = .ok (.goto 4, 3) := by decide +kernel
theorem dX1_oddNamed_24 : decode cX1_oddNamed 24 = .ok (.iconst 0, 1) := by decide +kernel
theorem dX1_oddNamed_25 : decode cX1_oddNamed 25 = .ok (.istore_n 2, 1) := by decide +kernel
theorem dX1_oddNamed_26 : decode cX1_oddNamed 26 = .ok (.iload_n 2, 1) := by decide +kernel
theorem dX1_oddNamed_27 : decode cX1_oddNamed 27 = .ok (.ifCond .eq 7, 3) := by decide +kernel
theorem dX1_oddNamed_30 : decode cX1_oddNamed 30 = .ok (.iconst 2, 1) := by decide +kernel
theorem dX1_oddNamed_31 : decode cX1_oddNamed 31 = .ok (.goto 5, 3) := by decide +kernel
theorem dX1_oddNamed_34 : decode cX1_oddNamed 34 = .ok (.bipush 9, 2) := by decide +kernel
theorem dX1_oddNamed_36 : decode cX1_oddNamed 36 = .ok (.istore_n 3, 1) := by decide +kernel
theorem dX1_oddNamed_37 : decode cX1_oddNamed 37 = .ok (.iload_n 1, 1) := by decide +kernel
theorem dX1_oddNamed_38 : decode cX1_oddNamed 38 = .ok (.ifCond .lt 17, 3) := by decide +kernel
theorem dX1_oddNamed_41 : decode cX1_oddNamed 41 = .ok (.iload_n 0, 1) := by decide +kernel
theorem dX1_oddNamed_42 : decode cX1_oddNamed 42 = .ok (.bipush 27, 2) := by decide +kernel
theorem dX1_oddNamed_44 : decode cX1_oddNamed 44 = .ok (.irem, 1) := by decide +kernel
theorem dX1_oddNamed_45 : decode cX1_oddNamed 45 = .ok (.iload_n 3, 1) := by decide +kernel
theorem dX1_oddNamed_46 : decode cX1_oddNamed 46 = .ok (.if_icmp .ne 9, 3) := by decide +kernel
theorem dX1_oddNamed_49 : decode cX1_oddNamed 49 = .ok (.iload_n 1, 1) := by decide +kernel
theorem dX1_oddNamed_50 : decode cX1_oddNamed 50 = .ok (.iconst 1, 1) := by decide +kernel
theorem dX1_oddNamed_51 : decode cX1_oddNamed 51 = .ok (.iadd, 1) := by decide +kernel
theorem dX1_oddNamed_52 : decode cX1_oddNamed 52 = .ok (.goto 4, 3) := by decide +kernel
theorem dX1_oddNamed_55 : decode cX1_oddNamed 55 = .ok (.iconst (-1), 1) := by decide +kernel
theorem dX1_oddNamed_56 : decode cX1_oddNamed 56 = .ok (.ireturn, 1) := by decide +kernel
set_option maxRecDepth 20000 in
theorem ggX1_meantBy_X1_placeOf : GoodIn wsX1_meantBy wsX1_placeOf := goodIn_r _ [4, 5, 6, 7, 8, 9, 10, 11, 12, 13, 14, 15, 16, 17, 18, 19, 20, 21, 22, 23, 24, 25, 26, 27, 28, 29, 30, 31, 32, 33, 34, 35, 36, 37, 38, 39, 40, 41, 42, 43, 44, 45, 46, 47, 48, 49, 50, 51, 52, 53] (by decide +kernel) (by decide +kernel)
set_option maxRecDepth 20000 in
theorem gX1_meantBy_X1_placeOf : GoodIn wsX1_meantBy (va_wsS RX1 63 yX1_placeOf wsX1_placeOf) := goodIn_app (goodIn_of _ (by decide +kernel)) ggX1_meantBy_X1_placeOf
set_option maxRecDepth 20000 in
theorem ggX1_meantBy_X1_nameAt : GoodIn wsX1_meantBy wsX1_nameAt := goodIn_r _ [56, 5, 6, 7, 8, 9, 10, 11, 12, 13, 14, 15, 16, 17, 18, 19, 20, 21, 22, 23, 24, 25, 26, 27, 28, 29, 30, 31, 32, 33, 34, 35, 36, 37, 38, 39, 40, 41, 42, 43, 44, 45, 46, 47, 48, 49, 50, 51, 52, 53] (by decide +kernel) (by decide +kernel)
set_option maxRecDepth 20000 in
theorem gX1_meantBy_X1_nameAt : GoodIn wsX1_meantBy (va_wsS RX1 67 yX1_nameAt wsX1_nameAt) := goodIn_app (goodIn_of _ (by decide +kernel)) ggX1_meantBy_X1_nameAt
end
section
theorem dX1_meantBy_0 : decode cX1_meantBy 0 = .ok (.iload_n 0, 1) := by decide +kernel
theorem dX1_meantBy_1 : decode cX1_meantBy 1 = .ok (.aload_n 1, 1) := by decide +kernel
theorem dX1_meantBy_2 : decode cX1_meantBy 2 = .ok (.invokestatic 63, 3) := by decide +kernel
theorem dX1_meantBy_5 : decode cX1_meantBy 5 = .ok (.istore_n 3, 1) := by decide +kernel
theorem dX1_meantBy_6 : decode cX1_meantBy 6 = .ok (.iload_n 3, 1) := by decide +kernel
theorem dX1_meantBy_7 : decode cX1_meantBy 7 = .ok (.ifCond .ge 7, 3) := by decide +kernel
theorem dX1_meantBy_10 : decode cX1_meantBy 10 = .ok (.iload_n 0, 1) := by decide +kernel
theorem dX1_meantBy_11 : decode cX1_meantBy 11 = .ok (.goto 8, 3) := by decide +kernel
theorem dX1_meantBy_14 : decode cX1_meantBy 14 = .ok (.iload_n 3, 1) := by decide +kernel
theorem dX1_meantBy_15 : decode cX1_meantBy 15 = .ok (.aload_n 2, 1) := by decide +kernel
theorem dX1_meantBy_16 : decode cX1_meantBy 16 = .ok (.invokestatic 67, 3) := by decide +kernel
theorem dX1_meantBy_19 : decode cX1_meantBy 19 = .ok (.ireturn, 1) := by decide +kernel
set_option maxRecDepth 20000 in
theorem ggX1_opInRow_X1_placeOf : GoodIn wsX1_opInRow wsX1_placeOf := goodIn_r _ [4, 5, 6, 7, 8, 9, 10, 11, 12, 13, 14, 15, 16, 17, 18, 19, 20, 21, 22, 23, 24, 25, 26, 27, 28, 29, 30, 31, 32, 33, 34, 35, 36, 37, 38, 39, 40, 41, 42, 43, 44, 45, 46, 47, 48, 49, 50, 51, 52, 53] (by decide +kernel) (by decide +kernel)
set_option maxRecDepth 20000 in
theorem gX1_opInRow_X1_placeOf : GoodIn wsX1_opInRow (va_wsS RX1 63 yX1_placeOf wsX1_placeOf) := goodIn_app (goodIn_of _ (by decide +kernel)) ggX1_opInRow_X1_placeOf
theorem dX1_opInRow_0 : decode cX1_opInRow 0 = .ok (.iload_n 3, 1) := by decide +kernel
theorem dX1_opInRow_1 : decode cX1_opInRow 1 = .ok (.aload_n 0, 1) := by decide +kernel
theorem dX1_opInRow_2 : decode cX1_opInRow 2 = .ok (.invokestatic 63, 3) := by decide +kernel
theorem dX1_opInRow_5 : decode cX1_opInRow 5 = .ok (.istore 4, 2) := by decide +kernel
theorem dX1_opInRow_7 : decode cX1_opInRow 7 = .ok (.iload 4, 2) := by decide +kernel
theorem dX1_opInRow_9 : decode cX1_opInRow 9 = .ok (.ifCond .ge 7, 3) := by decide +kernel
theorem dX1_opInRow_12 : decode cX1_opInRow 12 = .ok (.iconst (-1), 1) := by decide +kernel
theorem dX1_opInRow_13 : decode cX1_opInRow 13 = .ok (.goto 9, 3) := by decide +kernel
theorem dX1_opInRow_16 : decode cX1_opInRow 16 = .ok (.iload_n 1, 1) := by decide +kernel
theorem dX1_opInRow_17 : decode cX1_opInRow 17 = .ok (.iload_n 2, 1) := by decide +kernel
theorem dX1_opInRow_18 : decode cX1_opInRow 18 = .ok (.iload 4, 2) := by decide +kernel
theorem dX1_opInRow_20 : decode cX1_opInRow 20 = .ok (.imul, 1) := by decide +kernel
theorem dX1_opInRow_21 : decode cX1_opInRow 21 = .ok (.iadd, 1) := by decide +kernel
theorem dX1_opInRow_22 : decode cX1_opInRow 22 = .ok (.ireturn, 1) := by decide +kernel
set_option maxRecDepth 20000 in
theorem ggX1_placeOf_J0_length_8abf5 : GoodIn wsX1_placeOf wsJ0_length_8abf5 := goodIn_r _ [5, 6, 7, 8, 9, 4, 10, 11, 12] (by decide +kernel) (by decide +kernel)
set_option maxRecDepth 20000 in
theorem gX1_placeOf_J0_length_8abf5 : GoodIn wsX1_placeOf (wsV RX1 70 RJ0 yJ0_length_8abf5 wsJ0_length_8abf5) := goodIn_app (goodIn_of _ (by decide +kernel)) ggX1_placeOf_J0_length_8abf5
set_option maxRecDepth 20000 in
theorem ggX1_placeOf_J0_charAt_5068e : GoodIn wsX1_placeOf wsJ0_charAt_5068e := goodIn_r _ [16, 6, 17, 18, 19, 4, 20, 11, 12, 21, 22, 23, 24, 25, 26, 27, 28, 29, 30, 31, 32, 33, 34, 35, 36, 37, 38, 39, 40, 41, 42, 43, 44, 45, 46, 47, 48, 49] (by decide +kernel) (by decide +kernel)
set_option maxRecDepth 20000 in
theorem gX1_placeOf_J0_charAt_5068e : GoodIn wsX1_placeOf (wsV RX1 76 RJ0 yJ0_charAt_5068e wsJ0_charAt_5068e) := goodIn_app (goodIn_of _ (by decide +kernel)) ggX1_placeOf_J0_charAt_5068e
theorem dX1_placeOf_0 : decode cX1_placeOf 0 = .ok (.iconst 0, 1) := by decide +kernel
theorem dX1_placeOf_1 : decode cX1_placeOf 1 = .ok (.istore_n 2, 1) := by decide +kernel
theorem dX1_placeOf_2 : decode cX1_placeOf 2 = .ok (.iconst 0, 1) := by decide +kernel
theorem dX1_placeOf_3 : decode cX1_placeOf 3 = .ok (.istore_n 3, 1) := by decide +kernel
theorem dX1_placeOf_4 : decode cX1_placeOf 4 = .ok (.iconst 0, 1) := by decide +kernel
theorem dX1_placeOf_5 : decode cX1_placeOf 5 = .ok (.istore 4, 2) := by decide +kernel
theorem dX1_placeOf_7 : decode cX1_placeOf 7 = .ok (.iload 4, 2) := by decide +kernel
theorem dX1_placeOf_9 : decode cX1_placeOf 9 = .ok (.aload_n 1, 1) := by decide +kernel
theorem dX1_placeOf_10 : decode cX1_placeOf 10 = .ok (.invokevirtual 70, 3) := by decide +kernel
theorem dX1_placeOf_13 : decode cX1_placeOf 13 = .ok (.if_icmp .ge 50, 3) := by decide +kernel
theorem dX1_placeOf_16 : decode cX1_placeOf 16 = .ok (.aload_n 1, 1) := by decide +kernel
theorem dX1_placeOf_17 : decode cX1_placeOf 17 = .ok (.iload 4, 2) := by decide +kernel
theorem dX1_placeOf_19 : decode cX1_placeOf 19 = .ok (.invokevirtual 76, 3) := by decide +kernel
theorem dX1_placeOf_22 : decode cX1_placeOf 22 = .ok (.istore 5, 2) := by decide +kernel
theorem dX1_placeOf_24 : decode cX1_placeOf 24 = .ok (.iload 5, 2) := by decide +kernel
theorem dX1_placeOf_26 : decode cX1_placeOf 26 = .ok (.bipush 32, 2) := by decide +kernel
theorem dX1_placeOf_28 : decode cX1_placeOf 28 = .ok (.if_icmp .eq 17, 3) := by decide +kernel
theorem dX1_placeOf_31 : decode cX1_placeOf 31 = .ok (.bipush 27, 2) := by decide +kernel
theorem dX1_placeOf_33 : decode cX1_placeOf 33 = .ok (.iload_n 3, 1) := by decide +kernel
theorem dX1_placeOf_34 : decode cX1_placeOf 34 = .ok (.imul, 1) := by decide +kernel
theorem dX1_placeOf_35 : decode cX1_placeOf 35 = .ok (.iload 5, 2) := by decide +kernel
theorem dX1_placeOf_37 : decode cX1_placeOf 37 = .ok (.iadd, 1) := by decide +kernel
theorem dX1_placeOf_38 : decode cX1_placeOf 38 = .ok (.bipush 64, 2) := by decide +kernel
theorem dX1_placeOf_40 : decode cX1_placeOf 40 = .ok (.isub, 1) := by decide +kernel
theorem dX1_placeOf_41 : decode cX1_placeOf 41 = .ok (.istore_n 3, 1) := by decide +kernel
theorem dX1_placeOf_42 : decode cX1_placeOf 42 = .ok (.goto 15, 3) := by decide +kernel
theorem dX1_placeOf_45 : decode cX1_placeOf 45 = .ok (.iload_n 3, 1) := by decide +kernel
theorem dX1_placeOf_46 : decode cX1_placeOf 46 = .ok (.iload_n 0, 1) := by decide +kernel
theorem dX1_placeOf_47 : decode cX1_placeOf 47 = .ok (.if_icmp .ne 5, 3) := by decide +kernel
theorem dX1_placeOf_50 : decode cX1_placeOf 50 = .ok (.iload_n 2, 1) := by decide +kernel
theorem dX1_placeOf_51 : decode cX1_placeOf 51 = .ok (.ireturn, 1) := by decide +kernel
theorem dX1_placeOf_52 : decode cX1_placeOf 52 = .ok (.iinc 2 1, 3) := by decide +kernel
theorem dX1_placeOf_55 : decode cX1_placeOf 55 = .ok (.iconst 0, 1) := by decide +kernel
theorem dX1_placeOf_56 : decode cX1_placeOf 56 = .ok (.istore_n 3, 1) := by decide +kernel
theorem dX1_placeOf_57 : decode cX1_placeOf 57 = .ok (.iinc 4 1, 3) := by decide +kernel
theorem dX1_placeOf_60 : decode cX1_placeOf 60 = .ok (.goto (-53), 3) := by decide +kernel
theorem dX1_placeOf_63 : decode cX1_placeOf 63 = .ok (.iload_n 3, 1) := by decide +kernel
theorem dX1_placeOf_64 : decode cX1_placeOf 64 = .ok (.iload_n 0, 1) := by decide +kernel
theorem dX1_placeOf_65 : decode cX1_placeOf 65 = .ok (.if_icmp .ne 7, 3) := by decide +kernel
theorem dX1_placeOf_68 : decode cX1_placeOf 68 = .ok (.iload_n 2, 1) := by decide +kernel
theorem dX1_placeOf_69 : decode cX1_placeOf 69 = .ok (.goto 4, 3) := by decide +kernel
theorem dX1_placeOf_72 : decode cX1_placeOf 72 = .ok (.iconst (-1), 1) := by decide +kernel
theorem dX1_placeOf_73 : decode cX1_placeOf 73 = .ok (.ireturn, 1) := by decide +kernel
set_option maxRecDepth 20000 in
theorem ggX1_nameAt_J0_length_8abf5 : GoodIn wsX1_nameAt wsJ0_length_8abf5 := goodIn_r _ [5, 6, 7, 8, 9, 4, 10, 11, 12] (by decide +kernel) (by decide +kernel)
set_option maxRecDepth 20000 in
theorem gX1_nameAt_J0_length_8abf5 : GoodIn wsX1_nameAt (wsV RX1 70 RJ0 yJ0_length_8abf5 wsJ0_length_8abf5) := goodIn_app (goodIn_of _ (by decide +kernel)) ggX1_nameAt_J0_length_8abf5
set_option maxRecDepth 20000 in
theorem ggX1_nameAt_J0_charAt_5068e : GoodIn wsX1_nameAt wsJ0_charAt_5068e := goodIn_r _ [16, 6, 17, 18, 19, 4, 20, 11, 12, 21, 22, 23, 24, 25, 26, 27, 28, 29, 30, 31, 32, 33, 34, 35, 36, 37, 38, 39, 40, 41, 42, 43, 44, 45, 46, 47, 48, 49] (by decide +kernel) (by decide +kernel)
set_option maxRecDepth 20000 in
theorem gX1_nameAt_J0_charAt_5068e : GoodIn wsX1_nameAt (wsV RX1 76 RJ0 yJ0_charAt_5068e wsJ0_charAt_5068e) := goodIn_app (goodIn_of _ (by decide +kernel)) ggX1_nameAt_J0_charAt_5068e
theorem dX1_nameAt_0 : decode cX1_nameAt 0 = .ok (.iconst 0, 1) := by decide +kernel
theorem dX1_nameAt_1 : decode cX1_nameAt 1 = .ok (.istore_n 2, 1) := by decide +kernel
theorem dX1_nameAt_2 : decode cX1_nameAt 2 = .ok (.iconst 0, 1) := by decide +kernel
theorem dX1_nameAt_3 : decode cX1_nameAt 3 = .ok (.istore_n 3, 1) := by decide +kernel
theorem dX1_nameAt_4 : decode cX1_nameAt 4 = .ok (.iconst 0, 1) := by decide +kernel
theorem dX1_nameAt_5 : decode cX1_nameAt 5 = .ok (.istore 4, 2) := by decide +kernel
theorem dX1_nameAt_7 : decode cX1_nameAt 7 = .ok (.iload 4, 2) := by decide +kernel
theorem dX1_nameAt_9 : decode cX1_nameAt 9 = .ok (.aload_n 1, 1) := by decide +kernel
theorem dX1_nameAt_10 : decode cX1_nameAt 10 = .ok (.invokevirtual 70, 3) := by decide +kernel
theorem dX1_nameAt_13 : decode cX1_nameAt 13 = .ok (.if_icmp .ge 51, 3) := by decide +kernel
theorem dX1_nameAt_16 : decode cX1_nameAt 16 = .ok (.iload_n 2, 1) := by decide +kernel
theorem dX1_nameAt_17 : decode cX1_nameAt 17 = .ok (.iload_n 0, 1) := by decide +kernel
theorem dX1_nameAt_18 : decode cX1_nameAt 18 = .ok (.if_icmp .gt 46, 3) := by decide +kernel
theorem dX1_nameAt_21 : decode cX1_nameAt 21 = .ok (.aload_n 1, 1) := by decide +kernel
theorem dX1_nameAt_22 : decode cX1_nameAt 22 = .ok (.iload 4, 2) := by decide +kernel
theorem dX1_nameAt_24 : decode cX1_nameAt 24 = .ok (.invokevirtual 76, 3) := by decide +kernel
theorem dX1_nameAt_27 : decode cX1_nameAt 27 = .ok (.istore 5, 2) := by decide +kernel
theorem dX1_nameAt_29 : decode cX1_nameAt 29 = .ok (.iload 5, 2) := by decide +kernel
theorem dX1_nameAt_31 : decode cX1_nameAt 31 = .ok (.bipush 32, 2) := by decide +kernel
theorem dX1_nameAt_33 : decode cX1_nameAt 33 = .ok (.if_icmp .ne 9, 3) := by decide +kernel
theorem dX1_nameAt_36 : decode cX1_nameAt 36 = .ok (.iinc 2 1, 3) := by decide +kernel
theorem dX1_nameAt_39 : decode cX1_nameAt 39 = .ok (.goto 19, 3) := by decide +kernel
theorem dX1_nameAt_42 : decode cX1_nameAt 42 = .ok (.iload_n 2, 1) := by decide +kernel
theorem dX1_nameAt_43 : decode cX1_nameAt 43 = .ok (.iload_n 0, 1) := by decide +kernel
theorem dX1_nameAt_44 : decode cX1_nameAt 44 = .ok (.if_icmp .ne 14, 3) := by decide +kernel
theorem dX1_nameAt_47 : decode cX1_nameAt 47 = .ok (.bipush 27, 2) := by decide +kernel
theorem dX1_nameAt_49 : decode cX1_nameAt 49 = .ok (.iload_n 3, 1) := by decide +kernel
theorem dX1_nameAt_50 : decode cX1_nameAt 50 = .ok (.imul, 1) := by decide +kernel
theorem dX1_nameAt_51 : decode cX1_nameAt 51 = .ok (.iload 5, 2) := by decide +kernel
theorem dX1_nameAt_53 : decode cX1_nameAt 53 = .ok (.iadd, 1) := by decide +kernel
theorem dX1_nameAt_54 : decode cX1_nameAt 54 = .ok (.bipush 64, 2) := by decide +kernel
theorem dX1_nameAt_56 : decode cX1_nameAt 56 = .ok (.isub, 1) := by decide +kernel
theorem dX1_nameAt_57 : decode cX1_nameAt 57 = .ok (.istore_n 3, 1) := by decide +kernel
theorem dX1_nameAt_58 : decode cX1_nameAt 58 = .ok (.iinc 4 1, 3) := by decide +kernel
theorem dX1_nameAt_61 : decode cX1_nameAt 61 = .ok (.goto (-54), 3) := by decide +kernel
theorem dX1_nameAt_64 : decode cX1_nameAt 64 = .ok (.iload_n 3, 1) := by decide +kernel
theorem dX1_nameAt_65 : decode cX1_nameAt 65 = .ok (.ireturn, 1) := by decide +kernel
theorem dX2_isAbove_0 : decode cX2_isAbove 0 = .ok (.lload_n 0, 1) := by decide +kernel
theorem dX2_isAbove_1 : decode cX2_isAbove 1 = .ok (.ldc2_w 9, 3) := by decide +kernel
theorem dX2_isAbove_4 : decode cX2_isAbove 4 = .ok (.ladd, 1) := by decide +kernel
theorem dX2_isAbove_5 : decode cX2_isAbove 5 = .ok (.lload_n 2, 1) := by decide +kernel
theorem dX2_isAbove_6 : decode cX2_isAbove 6 = .ok (.ldc2_w 9, 3) := by decide +kernel
theorem dX2_isAbove_9 : decode cX2_isAbove 9 = .ok (.ladd, 1) := by decide +kernel
theorem dX2_isAbove_10 : decode cX2_isAbove 10 = .ok (.lcmp, 1) := by decide +kernel
theorem dX2_isAbove_11 : decode cX2_isAbove 11 = .ok (.ifCond .le 7, 3) := by decide +kernel
theorem dX2_isAbove_14 : decode cX2_isAbove 14 = .ok (.iconst 1, 1) := by decide +kernel
theorem dX2_isAbove_15 : decode cX2_isAbove 15 = .ok (.goto 4, 3) := by decide +kernel
theorem dX2_isAbove_18 : decode cX2_isAbove 18 = .ok (.iconst 0, 1) := by decide +kernel
theorem dX2_isAbove_19 : decode cX2_isAbove 19 = .ok (.ireturn, 1) := by decide +kernel
theorem dX2_highOfProduct_0 : decode cX2_highOfProduct 0 = .ok (.lload_n 0, 1) := by decide +kernel
theorem dX2_highOfProduct_1 : decode cX2_highOfProduct 1 = .ok (.ldc2_w 11, 3) := by decide +kernel
theorem dX2_highOfProduct_4 : decode cX2_highOfProduct 4 = .ok (.land, 1) := by decide +kernel
theorem dX2_highOfProduct_5 : decode cX2_highOfProduct 5 = .ok (.lstore 4, 2) := by decide +kernel
theorem dX2_highOfProduct_7 : decode cX2_highOfProduct 7 = .ok (.lload_n 2, 1) := by decide +kernel
theorem dX2_highOfProduct_8 : decode cX2_highOfProduct 8 = .ok (.ldc2_w 11, 3) := by decide +kernel
theorem dX2_highOfProduct_11 : decode cX2_highOfProduct 11 = .ok (.land, 1) := by decide +kernel
theorem dX2_highOfProduct_12 : decode cX2_highOfProduct 12 = .ok (.lstore 6, 2) := by decide +kernel
theorem dX2_highOfProduct_14 : decode cX2_highOfProduct 14 = .ok (.lload_n 0, 1) := by decide +kernel
theorem dX2_highOfProduct_15 : decode cX2_highOfProduct 15 = .ok (.bipush 32, 2) := by decide +kernel
theorem dX2_highOfProduct_17 : decode cX2_highOfProduct 17 = .ok (.lushr, 1) := by decide +kernel
theorem dX2_highOfProduct_18 : decode cX2_highOfProduct 18 = .ok (.lstore 8, 2) := by decide +kernel
theorem dX2_highOfProduct_20 : decode cX2_highOfProduct 20 = .ok (.lload_n 2, 1) := by decide +kernel
theorem dX2_highOfProduct_21 : decode cX2_highOfProduct 21 = .ok (.bipush 32, 2) := by decide +kernel
theorem dX2_highOfProduct_23 : decode cX2_highOfProduct 23 = .ok (.lushr, 1) := by decide +kernel
theorem dX2_highOfProduct_24 : decode cX2_highOfProduct 24 = .ok (.lstore 10, 2) := by decide +kernel
theorem dX2_highOfProduct_26 : decode cX2_highOfProduct 26 = .ok (.lload 8, 2) := by decide +kernel
theorem dX2_highOfProduct_28 : decode cX2_highOfProduct 28 = .ok (.lload 6, 2) := by decide +kernel
theorem dX2_highOfProduct_30 : decode cX2_highOfProduct 30 = .ok (.lmul, 1) := by decide +kernel
theorem dX2_highOfProduct_31 : decode cX2_highOfProduct 31 = .ok (.lload 4, 2) := by decide +kernel
theorem dX2_highOfProduct_33 : decode cX2_highOfProduct 33 = .ok (.lload 6, 2) := by decide +kernel
theorem dX2_highOfProduct_35 : decode cX2_highOfProduct 35 = .ok (.lmul, 1) := by decide +kernel
theorem dX2_highOfProduct_36 : decode cX2_highOfProduct 36 = .ok (.bipush 32, 2) := by decide +kernel
theorem dX2_highOfProduct_38 : decode cX2_highOfProduct 38 = .ok (.lushr, 1) := by decide +kernel
theorem dX2_highOfProduct_39 : decode cX2_highOfProduct 39 = .ok (.ladd, 1) := by decide +kernel
theorem dX2_highOfProduct_40 : decode cX2_highOfProduct 40 = .ok (.lstore 12, 2) := by decide +kernel
theorem dX2_highOfProduct_42 : decode cX2_highOfProduct 42 = .ok (.lload 4, 2) := by decide +kernel
theorem dX2_highOfProduct_44 : decode cX2_highOfProduct 44 = .ok (.lload 10, 2) := by decide +kernel
theorem dX2_highOfProduct_46 : decode cX2_highOfProduct 46 = .ok (.lmul, 1) := by decide +kernel
theorem dX2_highOfProduct_47 : decode cX2_highOfProduct 47 = .ok (.lload 12, 2) := by decide +kernel
theorem dX2_highOfProduct_49 : decode cX2_highOfProduct 49 = .ok (.ldc2_w 11, 3) := by decide +kernel
theorem dX2_highOfProduct_52 : decode cX2_highOfProduct 52 = .ok (.land, 1) := by decide +kernel
theorem dX2_highOfProduct_53 : decode cX2_highOfProduct 53 = .ok (.ladd, 1) := by decide +kernel
theorem dX2_highOfProduct_54 : decode cX2_highOfProduct 54 = .ok (.lstore 14, 2) := by decide +kernel
theorem dX2_highOfProduct_56 : decode cX2_highOfProduct 56 = .ok (.lload 8, 2) := by decide +kernel
theorem dX2_highOfProduct_58 : decode cX2_highOfProduct 58 = .ok (.lload 10, 2) := by decide +kernel
theorem dX2_highOfProduct_60 : decode cX2_highOfProduct 60 = .ok (.lmul, 1) := by decide +kernel
theorem dX2_highOfProduct_61 : decode cX2_highOfProduct 61 = .ok (.lload 12, 2) := by decide +kernel
theorem dX2_highOfProduct_63 : decode cX2_highOfProduct 63 = .ok (.bipush 32, 2) := by decide +kernel
theorem dX2_highOfProduct_65 : decode cX2_highOfProduct 65 = .ok (.lushr, 1) := by decide +kernel
theorem dX2_highOfProduct_66 : decode cX2_highOfProduct 66 = .ok (.ladd, 1) := by decide +kernel
theorem dX2_highOfProduct_67 : decode cX2_highOfProduct 67 = .ok (.lload 14, 2) := by decide +kernel
theorem dX2_highOfProduct_69 : decode cX2_highOfProduct 69 = .ok (.bipush 32, 2) := by decide +kernel
theorem dX2_highOfProduct_71 : decode cX2_highOfProduct 71 = .ok (.lushr, 1) := by decide +kernel
theorem dX2_highOfProduct_72 : decode cX2_highOfProduct 72 = .ok (.ladd, 1) := by decide +kernel
theorem dX2_highOfProduct_73 : decode cX2_highOfProduct 73 = .ok (.lreturn, 1) := by decide +kernel
set_option maxRecDepth 20000 in
theorem ggX2_highOfSignedProduct_X2_highOfProduct : GoodIn wsX2_highOfSignedProduct wsX2_highOfProduct := goodIn_r _ [4, 5] (by decide +kernel) (by decide +kernel)
set_option maxRecDepth 20000 in
theorem gX2_highOfSignedProduct_X2_highOfProduct : GoodIn wsX2_highOfSignedProduct (va_wsS RX2 13 yX2_highOfProduct wsX2_highOfProduct) := goodIn_app (goodIn_of _ (by decide +kernel)) ggX2_highOfSignedProduct_X2_highOfProduct
theorem dX2_highOfSignedProduct_0 : decode cX2_highOfSignedProduct 0 = .ok (.lload_n 0, 1) := by decide +kernel
theorem dX2_highOfSignedProduct_1 : decode cX2_highOfSignedProduct 1 = .ok (.lload_n 2, 1) := by decide +kernel
theorem dX2_highOfSignedProduct_2 : decode cX2_highOfSignedProduct 2 = .ok (.invokestatic 13, 3) := by decide +kernel
theorem dX2_highOfSignedProduct_5 : decode cX2_highOfSignedProduct 5 = .ok (.lload_n 0, 1) := by decide +kernel
theorem dX2_highOfSignedProduct_6 : decode cX2_highOfSignedProduct 6 = .ok (.lconst 0, 1) := by decide +kernel
theorem dX2_highOfSignedProduct_7 : decode cX2_highOfSignedProduct 7 = .ok (.lcmp, 1) := by decide +kernel
theorem dX2_highOfSignedProduct_8 : decode cX2_highOfSignedProduct 8 = .ok (.ifCond .ge 7, 3) := by decide +kernel
theorem dX2_highOfSignedProduct_11 : decode cX2_highOfSignedProduct 11 = .ok (.lload_n 2, 1) := by decide +kernel
theorem dX2_highOfSignedProduct_12 : decode cX2_highOfSignedProduct 12 = .ok (.goto 4, 3) := by decide +kernel
theorem dX2_highOfSignedProduct_15 : decode cX2_highOfSignedProduct 15 = .ok (.lconst 0, 1) := by decide +kernel
theorem dX2_highOfSignedProduct_16 : decode cX2_highOfSignedProduct 16 = .ok (.lsub, 1) := by decide +kernel
theorem dX2_highOfSignedProduct_17 : decode cX2_highOfSignedProduct 17 = .ok (.lload_n 2, 1) := by decide +kernel
theorem dX2_highOfSignedProduct_18 : decode cX2_highOfSignedProduct 18 = .ok (.lconst 0, 1) := by decide +kernel
theorem dX2_highOfSignedProduct_19 : decode cX2_highOfSignedProduct 19 = .ok (.lcmp, 1) := by decide +kernel
theorem dX2_highOfSignedProduct_20 : decode cX2_highOfSignedProduct 20 = .ok (.ifCond .ge 7, 3) := by decide +kernel
theorem dX2_highOfSignedProduct_23 : decode cX2_highOfSignedProduct 23 = .ok (.lload_n 0, 1) := by decide +kernel
theorem dX2_highOfSignedProduct_24 : decode cX2_highOfSignedProduct 24 = .ok (.goto 4, 3) := by decide +kernel
theorem dX2_highOfSignedProduct_27 : decode cX2_highOfSignedProduct 27 = .ok (.lconst 0, 1) := by decide +kernel
theorem dX2_highOfSignedProduct_28 : decode cX2_highOfSignedProduct 28 = .ok (.lsub, 1) := by decide +kernel
theorem dX2_highOfSignedProduct_29 : decode cX2_highOfSignedProduct 29 = .ok (.lreturn, 1) := by decide +kernel
theorem dX2_isWholeShift_0 : decode cX2_isWholeShift 0 = .ok (.lload_n 0, 1) := by decide +kernel
theorem dX2_isWholeShift_1 : decode cX2_isWholeShift 1 = .ok (.lconst 0, 1) := by decide +kernel
theorem dX2_isWholeShift_2 : decode cX2_isWholeShift 2 = .ok (.lcmp, 1) := by decide +kernel
theorem dX2_isWholeShift_3 : decode cX2_isWholeShift 3 = .ok (.ifCond .lt 11, 3) := by decide +kernel
theorem dX2_isWholeShift_6 : decode cX2_isWholeShift 6 = .ok (.lload_n 0, 1) := by decide +kernel
theorem dX2_isWholeShift_7 : decode cX2_isWholeShift 7 = .ok (.ldc2_w 19, 3) := by decide +kernel
theorem dX2_isWholeShift_10 : decode cX2_isWholeShift 10 = .ok (.lcmp, 1) := by decide +kernel
theorem dX2_isWholeShift_11 : decode cX2_isWholeShift 11 = .ok (.ifCond .lt 7, 3) := by decide +kernel
theorem dX2_isWholeShift_14 : decode cX2_isWholeShift 14 = .ok (.iconst 1, 1) := by decide +kernel
theorem dX2_isWholeShift_15 : decode cX2_isWholeShift 15 = .ok (.goto 4, 3) := by decide +kernel
theorem dX2_isWholeShift_18 : decode cX2_isWholeShift 18 = .ok (.iconst 0, 1) := by decide +kernel
theorem dX2_isWholeShift_19 : decode cX2_isWholeShift 19 = .ok (.ireturn, 1) := by decide +kernel
set_option maxRecDepth 20000 in
theorem ggX2_shiftLeft_X2_isWholeShift : GoodIn wsX2_shiftLeft wsX2_isWholeShift := goodIn_r _ [4, 5] (by decide +kernel) (by decide +kernel)
set_option maxRecDepth 20000 in
theorem gX2_shiftLeft_X2_isWholeShift : GoodIn wsX2_shiftLeft (va_wsS RX2 21 yX2_isWholeShift wsX2_isWholeShift) := goodIn_app (goodIn_of _ (by decide +kernel)) ggX2_shiftLeft_X2_isWholeShift
theorem dX2_shiftLeft_0 : decode cX2_shiftLeft 0 = .ok (.lload_n 2, 1) := by decide +kernel
theorem dX2_shiftLeft_1 : decode cX2_shiftLeft 1 = .ok (.invokestatic 21, 3) := by decide +kernel
theorem dX2_shiftLeft_4 : decode cX2_shiftLeft 4 = .ok (.ifCond .eq 7, 3) := by decide +kernel
theorem dX2_shiftLeft_7 : decode cX2_shiftLeft 7 = .ok (.lconst 0, 1) := by decide +kernel
theorem dX2_shiftLeft_8 : decode cX2_shiftLeft 8 = .ok (.goto 7, 3) := by decide +kernel
theorem dX2_shiftLeft_11 : decode cX2_shiftLeft 11 = .ok (.lload_n 0, 1) := by decide +kernel
theorem dX2_shiftLeft_12 : decode cX2_shiftLeft 12 = .ok (.lload_n 2, 1) := by decide +kernel
theorem dX2_shiftLeft_13 : decode cX2_shiftLeft 13 = .ok (.l2i, 1) := by decide +kernel
theorem dX2_shiftLeft_14 : decode cX2_shiftLeft 14 = .ok (.lshl, 1) := by decide +kernel
theorem dX2_shiftLeft_15 : decode cX2_shiftLeft 15 = .ok (.lreturn, 1) := by decide +kernel
set_option maxRecDepth 20000 in
theorem ggX2_shiftRight_X2_isWholeShift : GoodIn wsX2_shiftRight wsX2_isWholeShift := goodIn_r _ [4, 5] (by decide +kernel) (by decide +kernel)
set_option maxRecDepth 20000 in
theorem gX2_shiftRight_X2_isWholeShift : GoodIn wsX2_shiftRight (va_wsS RX2 21 yX2_isWholeShift wsX2_isWholeShift) := goodIn_app (goodIn_of _ (by decide +kernel)) ggX2_shiftRight_X2_isWholeShift
theorem dX2_shiftRight_0 : decode cX2_shiftRight 0 = .ok (.lload_n 2, 1) := by decide +kernel
theorem dX2_shiftRight_1 : decode cX2_shiftRight 1 = .ok (.invokestatic 21, 3) := by decide +kernel
theorem dX2_shiftRight_4 : decode cX2_shiftRight 4 = .ok (.ifCond .eq 10, 3) := by decide +kernel
theorem dX2_shiftRight_7 : decode cX2_shiftRight 7 = .ok (.lload_n 0, 1) := by decide +kernel
theorem dX2_shiftRight_8 : decode cX2_shiftRight 8 = .ok (.bipush 63, 2) := by decide +kernel
theorem dX2_shiftRight_10 : decode cX2_shiftRight 10 = .ok (.lshr, 1) := by decide +kernel
theorem dX2_shiftRight_11 : decode cX2_shiftRight 11 = .ok (.goto 7, 3) := by decide +kernel
theorem dX2_shiftRight_14 : decode cX2_shiftRight 14 = .ok (.lload_n 0, 1) := by decide +kernel
theorem dX2_shiftRight_15 : decode cX2_shiftRight 15 = .ok (.lload_n 2, 1) := by decide +kernel
theorem dX2_shiftRight_16 : decode cX2_shiftRight 16 = .ok (.l2i, 1) := by decide +kernel
theorem dX2_shiftRight_17 : decode cX2_shiftRight 17 = .ok (.lshr, 1) := by decide +kernel
theorem dX2_shiftRight_18 : decode cX2_shiftRight 18 = .ok (.lreturn, 1) := by decide +kernel
set_option maxRecDepth 20000 in
theorem ggX2_shiftRightUnsigned_X2_isWholeShift : GoodIn wsX2_shiftRightUnsigned wsX2_isWholeShift := goodIn_r _ [4, 5] (by decide +kernel) (by decide +kernel)
set_option maxRecDepth 20000 in
theorem gX2_shiftRightUnsigned_X2_isWholeShift : GoodIn wsX2_shiftRightUnsigned (va_wsS RX2 21 yX2_isWholeShift wsX2_isWholeShift) := goodIn_app (goodIn_of _ (by decide +kernel)) ggX2_shiftRightUnsigned_X2_isWholeShift
theorem dX2_shiftRightUnsigned_0 : decode cX2_shiftRightUnsigned 0 = .ok (.lload_n 2, 1) := by decide +kernel
theorem dX2_shiftRightUnsigned_1 : decode cX2_shiftRightUnsigned 1 = .ok (.invokestatic 21, 3) := by decide +kernel
theorem dX2_shiftRightUnsigned_4 : decode cX2_shiftRightUnsigned 4 = .ok (.ifCond .eq 7, 3) := by decide +kernel
theorem dX2_shiftRightUnsigned_7 : decode cX2_shiftRightUnsigned 7 = .ok (.lconst 0, 1) := by decide +kernel
theorem dX2_shiftRightUnsigned_8 : decode cX2_shiftRightUnsigned 8 = .ok (.goto 7, 3) := by decide +kernel
theorem dX2_shiftRightUnsigned_11 : decode cX2_shiftRightUnsigned 11 = .ok (.lload_n 0, 1) := by decide +kernel
theorem dX2_shiftRightUnsigned_12 : decode cX2_shiftRightUnsigned 12 = .ok (.lload_n 2, 1) := by decide +kernel
theorem dX2_shiftRightUnsigned_13 : decode cX2_shiftRightUnsigned 13 = .ok (.l2i, 1) := by decide +kernel
theorem dX2_shiftRightUnsigned_14 : decode cX2_shiftRightUnsigned 14 = .ok (.lushr, 1) := by decide +kernel
theorem dX2_shiftRightUnsigned_15 : decode cX2_shiftRightUnsigned 15 = .ok (.lreturn, 1) := by decide +kernel
theorem dX2_signed_0 : decode cX2_signed 0 = .ok (.bipush 64, 2) := by decide +kernel
theorem dX2_signed_2 : decode cX2_signed 2 = .ok (.bipush 8, 2) := by decide +kernel
theorem dX2_signed_4 : decode cX2_signed 4 = .ok (.iload_n 2, 1) := by decide +kernel
theorem dX2_signed_5 : decode cX2_signed 5 = .ok (.imul, 1) := by decide +kernel
theorem dX2_signed_6 : decode cX2_signed 6 = .ok (.isub, 1) := by decide +kernel
theorem dX2_signed_7 : decode cX2_signed 7 = .ok (.istore_n 3, 1) := by decide +kernel
theorem dX2_signed_8 : decode cX2_signed 8 = .ok (.lload_n 0, 1) := by decide +kernel
theorem dX2_signed_9 : decode cX2_signed 9 = .ok (.iload_n 3, 1) := by decide +kernel
theorem dX2_signed_10 : decode cX2_signed 10 = .ok (.lshl, 1) := by decide +kernel
theorem dX2_signed_11 : decode cX2_signed 11 = .ok (.iload_n 3, 1) := by decide +kernel
theorem dX2_signed_12 : decode cX2_signed 12 = .ok (.lshr, 1) := by decide +kernel
theorem dX2_signed_13 : decode cX2_signed 13 = .ok (.lreturn, 1) := by decide +kernel
theorem dX2_bitwise_0 : decode cX2_bitwise 0 = .ok (.iload_n 0, 1) := by decide +kernel
theorem dX2_bitwise_1 : decode cX2_bitwise 1 = .ok (.sipush 254, 3) := by decide +kernel
theorem dX2_bitwise_4 : decode cX2_bitwise 4 = .ok (.iand, 1) := by decide +kernel
theorem dX2_bitwise_5 : decode cX2_bitwise 5 = .ok (.tableswitch 111 192 204 #[67, 111, 71, 111, 79, 111, 87, 111, 91, 111, 95, 111, 103], 67) := by decide +kernel
theorem dX2_bitwise_72 : decode cX2_bitwise 72 = .ok (.lload_n 1, 1) := by decide +kernel
theorem dX2_bitwise_73 : decode cX2_bitwise 73 = .ok (.lload_n 3, 1) := by decide +kernel
theorem dX2_bitwise_74 : decode cX2_bitwise 74 = .ok (.lor, 1) := by decide +kernel
theorem dX2_bitwise_75 : decode cX2_bitwise 75 = .ok (.lreturn, 1) := by decide +kernel
theorem dX2_bitwise_76 : decode cX2_bitwise 76 = .ok (.lload_n 1, 1) := by decide +kernel
theorem dX2_bitwise_77 : decode cX2_bitwise 77 = .ok (.lload_n 3, 1) := by decide +kernel
theorem dX2_bitwise_78 : decode cX2_bitwise 78 = .ok (.ldc2_w 25, 3) := by decide +kernel
theorem dX2_bitwise_81 : decode cX2_bitwise 81 = .ok (.lxor, 1) := by decide +kernel
theorem dX2_bitwise_82 : decode cX2_bitwise 82 = .ok (.lor, 1) := by decide +kernel
theorem dX2_bitwise_83 : decode cX2_bitwise 83 = .ok (.lreturn, 1) := by decide +kernel
theorem dX2_bitwise_84 : decode cX2_bitwise 84 = .ok (.lload_n 1, 1) := by decide +kernel
theorem dX2_bitwise_85 : decode cX2_bitwise 85 = .ok (.lload_n 3, 1) := by decide +kernel
theorem dX2_bitwise_86 : decode cX2_bitwise 86 = .ok (.lor, 1) := by decide +kernel
theorem dX2_bitwise_87 : decode cX2_bitwise 87 = .ok (.ldc2_w 25, 3) := by decide +kernel
theorem dX2_bitwise_90 : decode cX2_bitwise 90 = .ok (.lxor, 1) := by decide +kernel
theorem dX2_bitwise_91 : decode cX2_bitwise 91 = .ok (.lreturn, 1) := by decide +kernel
theorem dX2_bitwise_92 : decode cX2_bitwise 92 = .ok (.lload_n 1, 1) := by decide +kernel
theorem dX2_bitwise_93 : decode cX2_bitwise 93 = .ok (.lload_n 3, 1) := by decide +kernel
theorem dX2_bitwise_94 : decode cX2_bitwise 94 = .ok (.lxor, 1) := by decide +kernel
theorem dX2_bitwise_95 : decode cX2_bitwise 95 = .ok (.lreturn, 1) := by decide +kernel
theorem dX2_bitwise_96 : decode cX2_bitwise 96 = .ok (.lload_n 1, 1) := by decide +kernel
theorem dX2_bitwise_97 : decode cX2_bitwise 97 = .ok (.lload_n 3, 1) := by decide +kernel
theorem dX2_bitwise_98 : decode cX2_bitwise 98 = .ok (.land, 1) := by decide +kernel
theorem dX2_bitwise_99 : decode cX2_bitwise 99 = .ok (.lreturn, 1) := by decide +kernel
theorem dX2_bitwise_100 : decode cX2_bitwise 100 = .ok (.lload_n 1, 1) := by decide +kernel
theorem dX2_bitwise_101 : decode cX2_bitwise 101 = .ok (.lload_n 3, 1) := by decide +kernel
theorem dX2_bitwise_102 : decode cX2_bitwise 102 = .ok (.ldc2_w 25, 3) := by decide +kernel
theorem dX2_bitwise_105 : decode cX2_bitwise 105 = .ok (.lxor, 1) := by decide +kernel
theorem dX2_bitwise_106 : decode cX2_bitwise 106 = .ok (.land, 1) := by decide +kernel
theorem dX2_bitwise_107 : decode cX2_bitwise 107 = .ok (.lreturn, 1) := by decide +kernel
theorem dX2_bitwise_108 : decode cX2_bitwise 108 = .ok (.lload_n 1, 1) := by decide +kernel
theorem dX2_bitwise_109 : decode cX2_bitwise 109 = .ok (.lload_n 3, 1) := by decide +kernel
theorem dX2_bitwise_110 : decode cX2_bitwise 110 = .ok (.land, 1) := by decide +kernel
theorem dX2_bitwise_111 : decode cX2_bitwise 111 = .ok (.ldc2_w 25, 3) := by decide +kernel
theorem dX2_bitwise_114 : decode cX2_bitwise 114 = .ok (.lxor, 1) := by decide +kernel
theorem dX2_bitwise_115 : decode cX2_bitwise 115 = .ok (.lreturn, 1) := by decide +kernel
theorem dX2_bitwise_116 : decode cX2_bitwise 116 = .ok (.lload_n 1, 1) := by decide +kernel
theorem dX2_bitwise_117 : decode cX2_bitwise 117 = .ok (.lload_n 3, 1) := by decide +kernel
theorem dX2_bitwise_118 : decode cX2_bitwise 118 = .ok (.lxor, 1) := by decide +kernel
theorem dX2_bitwise_119 : decode cX2_bitwise 119 = .ok (.ldc2_w 25, 3) := by decide +kernel
theorem dX2_bitwise_122 : decode cX2_bitwise 122 = .ok (.lxor, 1) := by decide +kernel
theorem dX2_bitwise_123 : decode cX2_bitwise 123 = .ok (.lreturn, 1) := by decide +kernel
set_option maxRecDepth 20000 in
theorem ggX2_differences_X2_isAbove : GoodIn wsX2_differences wsX2_isAbove := goodIn_r _ [5, 6] (by decide +kernel) (by decide +kernel)
set_option maxRecDepth 20000 in
theorem gX2_differences_X2_isAbove : GoodIn wsX2_differences (va_wsS RX2 27 yX2_isAbove wsX2_isAbove) := goodIn_app (goodIn_of _ (by decide +kernel)) ggX2_differences_X2_isAbove
theorem dX2_differences_0 : decode cX2_differences 0 = .ok (.ldc2_w 25, 3) := by decide +kernel
theorem dX2_differences_3 : decode cX2_differences 3 = .ok (.bipush 64, 2) := by decide +kernel
theorem dX2_differences_5 : decode cX2_differences 5 = .ok (.iload 4, 2) := by decide +kernel
theorem dX2_differences_7 : decode cX2_differences 7 = .ok (.isub, 1) := by decide +kernel
theorem dX2_differences_8 : decode cX2_differences 8 = .ok (.lushr, 1) := by decide +kernel
theorem dX2_differences_9 : decode cX2_differences 9 = .ok (.lstore 5, 2) := by decide +kernel
theorem dX2_differences_11 : decode cX2_differences 11 = .ok (.lconst 0, 1) := by decide +kernel
theorem dX2_differences_12 : decode cX2_differences 12 = .ok (.lstore 7, 2) := by decide +kernel
theorem dX2_differences_14 : decode cX2_differences 14 = .ok (.iconst 0, 1) := by decide +kernel
theorem dX2_differences_15 : decode cX2_differences 15 = .ok (.istore 9, 2) := by decide +kernel
theorem dX2_differences_17 : decode cX2_differences 17 = .ok (.iload 9, 2) := by decide +kernel
theorem dX2_differences_19 : decode cX2_differences 19 = .ok (.bipush 64, 2) := by decide +kernel
theorem dX2_differences_21 : decode cX2_differences 21 = .ok (.if_icmp .ge 54, 3) := by decide +kernel
theorem dX2_differences_24 : decode cX2_differences 24 = .ok (.lload_n 0, 1) := by decide +kernel
theorem dX2_differences_25 : decode cX2_differences 25 = .ok (.iload 9, 2) := by decide +kernel
theorem dX2_differences_27 : decode cX2_differences 27 = .ok (.lushr, 1) := by decide +kernel
theorem dX2_differences_28 : decode cX2_differences 28 = .ok (.lload 5, 2) := by decide +kernel
theorem dX2_differences_30 : decode cX2_differences 30 = .ok (.land, 1) := by decide +kernel
theorem dX2_differences_31 : decode cX2_differences 31 = .ok (.lstore 10, 2) := by decide +kernel
theorem dX2_differences_33 : decode cX2_differences 33 = .ok (.lload_n 2, 1) := by decide +kernel
theorem dX2_differences_34 : decode cX2_differences 34 = .ok (.iload 9, 2) := by decide +kernel
theorem dX2_differences_36 : decode cX2_differences 36 = .ok (.lushr, 1) := by decide +kernel
theorem dX2_differences_37 : decode cX2_differences 37 = .ok (.lload 5, 2) := by decide +kernel
theorem dX2_differences_39 : decode cX2_differences 39 = .ok (.land, 1) := by decide +kernel
theorem dX2_differences_40 : decode cX2_differences 40 = .ok (.lstore 12, 2) := by decide +kernel
theorem dX2_differences_42 : decode cX2_differences 42 = .ok (.lload 10, 2) := by decide +kernel
theorem dX2_differences_44 : decode cX2_differences 44 = .ok (.lload 12, 2) := by decide +kernel
theorem dX2_differences_46 : decode cX2_differences 46 = .ok (.invokestatic 27, 3) := by decide +kernel
theorem dX2_differences_49 : decode cX2_differences 49 = .ok (.ifCond .eq 16, 3) := by decide +kernel
theorem dX2_differences_52 : decode cX2_differences 52 = .ok (.lload 7, 2) := by decide +kernel
theorem dX2_differences_54 : decode cX2_differences 54 = .ok (.lload 10, 2) := by decide +kernel
theorem dX2_differences_56 : decode cX2_differences 56 = .ok (.lload 12, 2) := by decide +kernel
theorem dX2_differences_58 : decode cX2_differences 58 = .ok (.lsub, 1) := by decide +kernel
theorem dX2_differences_59 : decode cX2_differences 59 = .ok (.iload 9, 2) := by decide +kernel
theorem dX2_differences_61 : decode cX2_differences 61 = .ok (.lshl, 1) := by decide +kernel
theorem dX2_differences_62 : decode cX2_differences 62 = .ok (.lor, 1) := by decide +kernel
theorem dX2_differences_63 : decode cX2_differences 63 = .ok (.lstore 7, 2) := by decide +kernel
theorem dX2_differences_65 : decode cX2_differences 65 = .ok (.iload 9, 2) := by decide +kernel
theorem dX2_differences_67 : decode cX2_differences 67 = .ok (.iload 4, 2) := by decide +kernel
theorem dX2_differences_69 : decode cX2_differences 69 = .ok (.iadd, 1) := by decide +kernel
theorem dX2_differences_70 : decode cX2_differences 70 = .ok (.istore 9, 2) := by decide +kernel
theorem dX2_differences_72 : decode cX2_differences 72 = .ok (.goto (-55), 3) := by decide +kernel
theorem dX2_differences_75 : decode cX2_differences 75 = .ok (.lload 7, 2) := by decide +kernel
theorem dX2_differences_77 : decode cX2_differences 77 = .ok (.lreturn, 1) := by decide +kernel
theorem dX2_matrixProduct_0 : decode cX2_matrixProduct 0 = .ok (.lconst 0, 1) := by decide +kernel
theorem dX2_matrixProduct_1 : decode cX2_matrixProduct 1 = .ok (.lstore 5, 2) := by decide +kernel
theorem dX2_matrixProduct_3 : decode cX2_matrixProduct 3 = .ok (.iconst 0, 1) := by decide +kernel
theorem dX2_matrixProduct_4 : decode cX2_matrixProduct 4 = .ok (.istore 7, 2) := by decide +kernel
theorem dX2_matrixProduct_6 : decode cX2_matrixProduct 6 = .ok (.iload 7, 2) := by decide +kernel
theorem dX2_matrixProduct_8 : decode cX2_matrixProduct 8 = .ok (.bipush 8, 2) := by decide +kernel
theorem dX2_matrixProduct_10 : decode cX2_matrixProduct 10 = .ok (.if_icmp .ge 61, 3) := by decide +kernel
theorem dX2_matrixProduct_13 : decode cX2_matrixProduct 13 = .ok (.lload_n 2, 1) := by decide +kernel
theorem dX2_matrixProduct_14 : decode cX2_matrixProduct 14 = .ok (.bipush 7, 2) := by decide +kernel
theorem dX2_matrixProduct_16 : decode cX2_matrixProduct 16 = .ok (.iload 7, 2) := by decide +kernel
theorem dX2_matrixProduct_18 : decode cX2_matrixProduct 18 = .ok (.isub, 1) := by decide +kernel
theorem dX2_matrixProduct_19 : decode cX2_matrixProduct 19 = .ok (.lushr, 1) := by decide +kernel
theorem dX2_matrixProduct_20 : decode cX2_matrixProduct 20 = .ok (.ldc2_w 31, 3) := by decide +kernel
theorem dX2_matrixProduct_23 : decode cX2_matrixProduct 23 = .ok (.land, 1) := by decide +kernel
theorem dX2_matrixProduct_24 : decode cX2_matrixProduct 24 = .ok (.lstore 8, 2) := by decide +kernel
theorem dX2_matrixProduct_26 : decode cX2_matrixProduct 26 = .ok (.lload 8, 2) := by decide +kernel
theorem dX2_matrixProduct_28 : decode cX2_matrixProduct 28 = .ok (.lload_n 0, 1) := by decide +kernel
theorem dX2_matrixProduct_29 : decode cX2_matrixProduct 29 = .ok (.bipush 56, 2) := by decide +kernel
theorem dX2_matrixProduct_31 : decode cX2_matrixProduct 31 = .ok (.bipush 8, 2) := by decide +kernel
theorem dX2_matrixProduct_33 : decode cX2_matrixProduct 33 = .ok (.iload 7, 2) := by decide +kernel
theorem dX2_matrixProduct_35 : decode cX2_matrixProduct 35 = .ok (.imul, 1) := by decide +kernel
theorem dX2_matrixProduct_36 : decode cX2_matrixProduct 36 = .ok (.isub, 1) := by decide +kernel
theorem dX2_matrixProduct_37 : decode cX2_matrixProduct 37 = .ok (.lushr, 1) := by decide +kernel
theorem dX2_matrixProduct_38 : decode cX2_matrixProduct 38 = .ok (.ldc2_w 33, 3) := by decide +kernel
theorem dX2_matrixProduct_41 : decode cX2_matrixProduct 41 = .ok (.land, 1) := by decide +kernel
theorem dX2_matrixProduct_42 : decode cX2_matrixProduct 42 = .ok (.lmul, 1) := by decide +kernel
theorem dX2_matrixProduct_43 : decode cX2_matrixProduct 43 = .ok (.lstore 10, 2) := by decide +kernel
theorem dX2_matrixProduct_45 : decode cX2_matrixProduct 45 = .ok (.iload 4, 2) := by decide +kernel
theorem dX2_matrixProduct_47 : decode cX2_matrixProduct 47 = .ok (.ifCond .eq 11, 3) := by decide +kernel
theorem dX2_matrixProduct_50 : decode cX2_matrixProduct 50 = .ok (.lload 5, 2) := by decide +kernel
theorem dX2_matrixProduct_52 : decode cX2_matrixProduct 52 = .ok (.lload 10, 2) := by decide +kernel
theorem dX2_matrixProduct_54 : decode cX2_matrixProduct 54 = .ok (.lxor, 1) := by decide +kernel
theorem dX2_matrixProduct_55 : decode cX2_matrixProduct 55 = .ok (.goto 8, 3) := by decide +kernel
theorem dX2_matrixProduct_58 : decode cX2_matrixProduct 58 = .ok (.lload 5, 2) := by decide +kernel
theorem dX2_matrixProduct_60 : decode cX2_matrixProduct 60 = .ok (.lload 10, 2) := by decide +kernel
theorem dX2_matrixProduct_62 : decode cX2_matrixProduct 62 = .ok (.lor, 1) := by decide +kernel
theorem dX2_matrixProduct_63 : decode cX2_matrixProduct 63 = .ok (.lstore 5, 2) := by decide +kernel
theorem dX2_matrixProduct_65 : decode cX2_matrixProduct 65 = .ok (.iinc 7 1, 3) := by decide +kernel
theorem dX2_matrixProduct_68 : decode cX2_matrixProduct 68 = .ok (.goto (-62), 3) := by decide +kernel
theorem dX2_matrixProduct_71 : decode cX2_matrixProduct 71 = .ok (.lload 5, 2) := by decide +kernel
theorem dX2_matrixProduct_73 : decode cX2_matrixProduct 73 = .ok (.lreturn, 1) := by decide +kernel
set_option maxRecDepth 20000 in
theorem ggX3_init_X0_init : GoodIn wsX3_init wsX0_init := goodIn_r _ [15, 16, 2, 3, 4, 17, 30] (by decide +kernel) (by decide +kernel)
set_option maxRecDepth 20000 in
theorem gX3_init_X0_init_n25 : GoodIn wsX3_init (wsX0_init) := ggX3_init_X0_init
theorem dX3_init_0 : decode cX3_init 0 = .ok (.aload_n 0, 1) := by decide +kernel
theorem dX3_init_1 : decode cX3_init 1 = .ok (.invokespecial 1, 3) := by decide +kernel
theorem dX3_init_4 : decode cX3_init 4 = .ok (.aload_n 0, 1) := by decide +kernel
theorem dX3_init_5 : decode cX3_init 5 = .ok (.sipush 256, 3) := by decide +kernel
theorem dX3_init_8 : decode cX3_init 8 = .ok (.newarray .long, 2) := by decide +kernel
theorem dX3_init_10 : decode cX3_init 10 = .ok (.putfield 9, 3) := by decide +kernel
theorem dX3_init_13 : decode cX3_init 13 = .ok (.aload_n 0, 1) := by decide +kernel
theorem dX3_init_14 : decode cX3_init 14 = .ok (.bipush 8, 2) := by decide +kernel
theorem dX3_init_16 : decode cX3_init 16 = .ok (.newarray .long, 2) := by decide +kernel
theorem dX3_init_18 : decode cX3_init 18 = .ok (.putfield 13, 3) := by decide +kernel
theorem dX3_init_21 : decode cX3_init 21 = .ok (.aload_n 0, 1) := by decide +kernel
theorem dX3_init_22 : decode cX3_init 22 = .ok (.sipush 256, 3) := by decide +kernel
theorem dX3_init_25 : decode cX3_init 25 = .ok (.newarray .long, 2) := by decide +kernel
theorem dX3_init_27 : decode cX3_init 27 = .ok (.putfield 16, 3) := by decide +kernel
theorem dX3_init_30 : decode cX3_init 30 = .ok (.aload_n 0, 1) := by decide +kernel
theorem dX3_init_31 : decode cX3_init 31 = .ok (.sipush 500, 3) := by decide +kernel
theorem dX3_init_34 : decode cX3_init 34 = .ok (.newarray .byte, 2) := by decide +kernel
theorem dX3_init_36 : decode cX3_init 36 = .ok (.putfield 19, 3) := by decide +kernel
theorem dX3_init_39 : decode cX3_init 39 = .ok (.aload_n 0, 1) := by decide +kernel
theorem dX3_init_40 : decode cX3_init 40 = .ok (.new 23, 3) := by decide +kernel
theorem dX3_init_43 : decode cX3_init 43 = .ok (.dup, 1) := by decide +kernel
theorem dX3_init_44 : decode cX3_init 44 = .ok (.invokespecial 25, 3) := by decide +kernel
theorem dX3_init_47 : decode cX3_init 47 = .ok (.putfield 26, 3) := by decide +kernel
theorem dX3_init_50 : decode cX3_init 50 = .ok (.return_, 1) := by decide +kernel
theorem dX3_set_0 : decode cX3_set 0 = .ok (.iload_n 1, 1) := by decide +kernel
theorem dX3_set_1 : decode cX3_set 1 = .ok (.ifCond .lt 10, 3) := by decide +kernel
theorem dX3_set_4 : decode cX3_set 4 = .ok (.iload_n 1, 1) := by decide +kernel
theorem dX3_set_5 : decode cX3_set 5 = .ok (.sipush 256, 3) := by decide +kernel
theorem dX3_set_8 : decode cX3_set 8 = .ok (.if_icmp .lt 13, 3) := by decide +kernel
theorem dX3_set_11 : decode cX3_set 11 = .ok (.new 30, 3) := by decide +kernel
theorem dX3_set_14 : decode cX3_set 14 = .ok (.dup, 1) := by decide +kernel
theorem dX3_set_15 : decode cX3_set 15 = .ok (.ldc 32, 2) := by decide +kernel
theorem dX3_set_17 : decode cX3_set 17 = .ok (.invokespecial 34, 3) := by decide +kernel
theorem dX3_set_20 : decode cX3_set 20 = .ok (.athrow, 1) := by decide +kernel
theorem dX3_set_21 : decode cX3_set 21 = .ok (.aload_n 0, 1) := by decide +kernel
theorem dX3_set_22 : decode cX3_set 22 = .ok (.getfield 9, 3) := by decide +kernel
theorem dX3_set_25 : decode cX3_set 25 = .ok (.iload_n 1, 1) := by decide +kernel
theorem dX3_set_26 : decode cX3_set 26 = .ok (.laload, 1) := by decide +kernel
theorem dX3_set_27 : decode cX3_set 27 = .ok (.lstore 4, 2) := by decide +kernel
theorem dX3_set_29 : decode cX3_set 29 = .ok (.aload_n 0, 1) := by decide +kernel
theorem dX3_set_30 : decode cX3_set 30 = .ok (.getfield 9, 3) := by decide +kernel
theorem dX3_set_33 : decode cX3_set 33 = .ok (.iload_n 1, 1) := by decide +kernel
theorem dX3_set_34 : decode cX3_set 34 = .ok (.lload_n 2, 1) := by decide +kernel
theorem dX3_set_35 : decode cX3_set 35 = .ok (.lastore, 1) := by decide +kernel
theorem dX3_set_36 : decode cX3_set 36 = .ok (.lload 4, 2) := by decide +kernel
theorem dX3_set_38 : decode cX3_set 38 = .ok (.lreturn, 1) := by decide +kernel
theorem dX3_get_0 : decode cX3_get 0 = .ok (.iload_n 1, 1) := by decide +kernel
theorem dX3_get_1 : decode cX3_get 1 = .ok (.ifCond .lt 10, 3) := by decide +kernel
theorem dX3_get_4 : decode cX3_get 4 = .ok (.iload_n 1, 1) := by decide +kernel
theorem dX3_get_5 : decode cX3_get 5 = .ok (.sipush 264, 3) := by decide +kernel
theorem dX3_get_8 : decode cX3_get 8 = .ok (.if_icmp .lt 13, 3) := by decide +kernel
theorem dX3_get_11 : decode cX3_get 11 = .ok (.new 30, 3) := by decide +kernel
theorem dX3_get_14 : decode cX3_get 14 = .ok (.dup, 1) := by decide +kernel
theorem dX3_get_15 : decode cX3_get 15 = .ok (.ldc 32, 2) := by decide +kernel
theorem dX3_get_17 : decode cX3_get 17 = .ok (.invokespecial 34, 3) := by decide +kernel
theorem dX3_get_20 : decode cX3_get 20 = .ok (.athrow, 1) := by decide +kernel
theorem dX3_get_21 : decode cX3_get 21 = .ok (.iload_n 1, 1) := by decide +kernel
theorem dX3_get_22 : decode cX3_get 22 = .ok (.sipush 256, 3) := by decide +kernel
theorem dX3_get_25 : decode cX3_get 25 = .ok (.if_icmp .ge 12, 3) := by decide +kernel
theorem dX3_get_28 : decode cX3_get 28 = .ok (.aload_n 0, 1) := by decide +kernel
theorem dX3_get_29 : decode cX3_get 29 = .ok (.getfield 9, 3) := by decide +kernel
theorem dX3_get_32 : decode cX3_get 32 = .ok (.iload_n 1, 1) := by decide +kernel
theorem dX3_get_33 : decode cX3_get 33 = .ok (.laload, 1) := by decide +kernel
theorem dX3_get_34 : decode cX3_get 34 = .ok (.goto 13, 3) := by decide +kernel
theorem dX3_get_37 : decode cX3_get 37 = .ok (.aload_n 0, 1) := by decide +kernel
theorem dX3_get_38 : decode cX3_get 38 = .ok (.getfield 13, 3) := by decide +kernel
theorem dX3_get_41 : decode cX3_get 41 = .ok (.iload_n 1, 1) := by decide +kernel
theorem dX3_get_42 : decode cX3_get 42 = .ok (.sipush 256, 3) := by decide +kernel
theorem dX3_get_45 : decode cX3_get 45 = .ok (.isub, 1) := by decide +kernel
theorem dX3_get_46 : decode cX3_get 46 = .ok (.laload, 1) := by decide +kernel
theorem dX3_get_47 : decode cX3_get 47 = .ok (.lreturn, 1) := by decide +kernel
set_option maxRecDepth 20000 in
theorem ggX3_poke_X3_isBeyond : GoodIn wsX3_poke wsX3_isBeyond := goodIn_r _ [7, 8] (by decide +kernel) (by decide +kernel)
set_option maxRecDepth 20000 in
theorem gX3_poke_X3_isBeyond : GoodIn wsX3_poke (va_wsS RX3 37 yX3_isBeyond wsX3_isBeyond) := goodIn_app (goodIn_of _ (by decide +kernel)) ggX3_poke_X3_isBeyond
set_option maxRecDepth 20000 in
theorem ggX3_poke_X0_load : GoodIn wsX3_poke wsX0_load := goodIn_r _ [12, 13, 14, 15, 10, 16, 17, 18, 19, 20, 21, 22, 23, 39] (by decide +kernel) (by decide +kernel)
set_option maxRecDepth 20000 in
theorem gX3_poke_X0_load_n46 : GoodIn wsX3_poke (wsX0_load) := ggX3_poke_X0_load
set_option maxRecDepth 20000 in
theorem ggX3_poke_X0_store : GoodIn wsX3_poke wsX0_store := goodIn_r _ [26, 13, 23, 17, 18, 10, 19, 14, 15, 16, 20, 21, 22, 39] (by decide +kernel) (by decide +kernel)
set_option maxRecDepth 20000 in
theorem gX3_poke_X0_store_n50 : GoodIn wsX3_poke (wsX0_store) := ggX3_poke_X0_store
theorem dX3_poke_0 : decode cX3_poke 0 = .ok (.iload_n 1, 1) := by decide +kernel
theorem dX3_poke_1 : decode cX3_poke 1 = .ok (.i2l, 1) := by decide +kernel
theorem dX3_poke_2 : decode cX3_poke 2 = .ok (.invokestatic 37, 3) := by decide +kernel
theorem dX3_poke_5 : decode cX3_poke 5 = .ok (.ifCond .eq 13, 3) := by decide +kernel
theorem dX3_poke_8 : decode cX3_poke 8 = .ok (.new 41, 3) := by decide +kernel
theorem dX3_poke_11 : decode cX3_poke 11 = .ok (.dup, 1) := by decide +kernel
theorem dX3_poke_12 : decode cX3_poke 12 = .ok (.ldc 43, 2) := by decide +kernel
theorem dX3_poke_14 : decode cX3_poke 14 = .ok (.invokespecial 45, 3) := by decide +kernel
theorem dX3_poke_17 : decode cX3_poke 17 = .ok (.athrow, 1) := by decide +kernel
theorem dX3_poke_18 : decode cX3_poke 18 = .ok (.aload_n 0, 1) := by decide +kernel
theorem dX3_poke_19 : decode cX3_poke 19 = .ok (.getfield 26, 3) := by decide +kernel
theorem dX3_poke_22 : decode cX3_poke 22 = .ok (.iload_n 1, 1) := by decide +kernel
theorem dX3_poke_23 : decode cX3_poke 23 = .ok (.i2l, 1) := by decide +kernel
theorem dX3_poke_24 : decode cX3_poke 24 = .ok (.bipush 8, 2) := by decide +kernel
theorem dX3_poke_26 : decode cX3_poke 26 = .ok (.invokevirtual 46, 3) := by decide +kernel
theorem dX3_poke_29 : decode cX3_poke 29 = .ok (.lstore 4, 2) := by decide +kernel
theorem dX3_poke_31 : decode cX3_poke 31 = .ok (.aload_n 0, 1) := by decide +kernel
theorem dX3_poke_32 : decode cX3_poke 32 = .ok (.getfield 26, 3) := by decide +kernel
theorem dX3_poke_35 : decode cX3_poke 35 = .ok (.iload_n 1, 1) := by decide +kernel
theorem dX3_poke_36 : decode cX3_poke 36 = .ok (.i2l, 1) := by decide +kernel
theorem dX3_poke_37 : decode cX3_poke 37 = .ok (.bipush 8, 2) := by decide +kernel
theorem dX3_poke_39 : decode cX3_poke 39 = .ok (.lload_n 2, 1) := by decide +kernel
theorem dX3_poke_40 : decode cX3_poke 40 = .ok (.invokevirtual 50, 3) := by decide +kernel
theorem dX3_poke_43 : decode cX3_poke 43 = .ok (.lload 4, 2) := by decide +kernel
theorem dX3_poke_45 : decode cX3_poke 45 = .ok (.lreturn, 1) := by decide +kernel
set_option maxRecDepth 20000 in
theorem ggX3_peek_X3_isBeyond : GoodIn wsX3_peek wsX3_isBeyond := goodIn_r _ [7, 8] (by decide +kernel) (by decide +kernel)
set_option maxRecDepth 20000 in
theorem gX3_peek_X3_isBeyond : GoodIn wsX3_peek (va_wsS RX3 37 yX3_isBeyond wsX3_isBeyond) := goodIn_app (goodIn_of _ (by decide +kernel)) ggX3_peek_X3_isBeyond
set_option maxRecDepth 20000 in
theorem ggX3_peek_X0_load : GoodIn wsX3_peek wsX0_load := goodIn_r _ [12, 13, 14, 15, 10, 16, 17, 18, 19, 20, 21, 22, 23, 36] (by decide +kernel) (by decide +kernel)
set_option maxRecDepth 20000 in
theorem gX3_peek_X0_load_n46 : GoodIn wsX3_peek (wsX0_load) := ggX3_peek_X0_load
theorem dX3_peek_0 : decode cX3_peek 0 = .ok (.iload_n 1, 1) := by decide +kernel
theorem dX3_peek_1 : decode cX3_peek 1 = .ok (.i2l, 1) := by decide +kernel
theorem dX3_peek_2 : decode cX3_peek 2 = .ok (.invokestatic 37, 3) := by decide +kernel
theorem dX3_peek_5 : decode cX3_peek 5 = .ok (.ifCond .eq 13, 3) := by decide +kernel
theorem dX3_peek_8 : decode cX3_peek 8 = .ok (.new 41, 3) := by decide +kernel
theorem dX3_peek_11 : decode cX3_peek 11 = .ok (.dup, 1) := by decide +kernel
theorem dX3_peek_12 : decode cX3_peek 12 = .ok (.ldc 43, 2) := by decide +kernel
theorem dX3_peek_14 : decode cX3_peek 14 = .ok (.invokespecial 45, 3) := by decide +kernel
theorem dX3_peek_17 : decode cX3_peek 17 = .ok (.athrow, 1) := by decide +kernel
theorem dX3_peek_18 : decode cX3_peek 18 = .ok (.aload_n 0, 1) := by decide +kernel
theorem dX3_peek_19 : decode cX3_peek 19 = .ok (.getfield 26, 3) := by decide +kernel
theorem dX3_peek_22 : decode cX3_peek 22 = .ok (.iload_n 1, 1) := by decide +kernel
theorem dX3_peek_23 : decode cX3_peek 23 = .ok (.i2l, 1) := by decide +kernel
theorem dX3_peek_24 : decode cX3_peek 24 = .ok (.bipush 8, 2) := by decide +kernel
theorem dX3_peek_26 : decode cX3_peek 26 = .ok (.invokevirtual 46, 3) := by decide +kernel
theorem dX3_peek_29 : decode cX3_peek 29 = .ok (.lreturn, 1) := by decide +kernel
set_option maxRecDepth 20000 in
theorem ggX3_at_X3_isBeyond : GoodIn wsX3_at wsX3_isBeyond := goodIn_r _ [7, 8] (by decide +kernel) (by decide +kernel)
set_option maxRecDepth 20000 in
theorem gX3_at_X3_isBeyond : GoodIn wsX3_at (va_wsS RX3 37 yX3_isBeyond wsX3_isBeyond) := goodIn_app (goodIn_of _ (by decide +kernel)) ggX3_at_X3_isBeyond
theorem dX3_at_0 : decode cX3_at 0 = .ok (.iload_n 1, 1) := by decide +kernel
theorem dX3_at_1 : decode cX3_at 1 = .ok (.i2l, 1) := by decide +kernel
theorem dX3_at_2 : decode cX3_at 2 = .ok (.invokestatic 37, 3) := by decide +kernel
theorem dX3_at_5 : decode cX3_at 5 = .ok (.ifCond .eq 13, 3) := by decide +kernel
theorem dX3_at_8 : decode cX3_at 8 = .ok (.new 41, 3) := by decide +kernel
theorem dX3_at_11 : decode cX3_at 11 = .ok (.dup, 1) := by decide +kernel
theorem dX3_at_12 : decode cX3_at 12 = .ok (.ldc 43, 2) := by decide +kernel
theorem dX3_at_14 : decode cX3_at 14 = .ok (.invokespecial 45, 3) := by decide +kernel
theorem dX3_at_17 : decode cX3_at 17 = .ok (.athrow, 1) := by decide +kernel
theorem dX3_at_18 : decode cX3_at 18 = .ok (.aload_n 0, 1) := by decide +kernel
theorem dX3_at_19 : decode cX3_at 19 = .ok (.iload_n 1, 1) := by decide +kernel
theorem dX3_at_20 : decode cX3_at 20 = .ok (.bipush (-4), 2) := by decide +kernel
theorem dX3_at_22 : decode cX3_at 22 = .ok (.iand, 1) := by decide +kernel
theorem dX3_at_23 : decode cX3_at 23 = .ok (.putfield 54, 3) := by decide +kernel
theorem dX3_at_26 : decode cX3_at 26 = .ok (.aload_n 0, 1) := by decide +kernel
theorem dX3_at_27 : decode cX3_at 27 = .ok (.getfield 54, 3) := by decide +kernel
theorem dX3_at_30 : decode cX3_at 30 = .ok (.ireturn, 1) := by decide +kernel
set_option maxRecDepth 20000 in
theorem ggX3_put_X1_opNamed : GoodIn wsX3_put wsX1_opNamed := goodIn_r _ [9, 10, 11, 8, 12, 13, 14, 15, 16, 17, 18, 19, 20, 21, 22, 23, 24, 25, 26, 27, 28, 29, 30, 31, 32, 33, 34, 35, 36, 37, 38, 39, 40, 41, 42, 43, 44, 45, 46, 47, 48, 49, 50, 51, 52, 53, 54, 55, 56, 57, 58, 59, 60, 61, 62, 63, 64, 65, 66, 67, 68, 69, 70, 71, 72, 73, 74, 75, 76, 77, 78, 79] (by decide +kernel) (by decide +kernel)
set_option maxRecDepth 20000 in
theorem gX3_put_X1_opNamed_n58 : GoodIn wsX3_put (wsX1_opNamed) := ggX3_put_X1_opNamed
set_option maxRecDepth 20000 in
theorem ggX3_put_X3_isBeyond : GoodIn wsX3_put wsX3_isBeyond := goodIn_r _ [83, 84] (by decide +kernel) (by decide +kernel)
set_option maxRecDepth 20000 in
theorem gX3_put_X3_isBeyond : GoodIn wsX3_put (va_wsS RX3 37 yX3_isBeyond wsX3_isBeyond) := goodIn_app (goodIn_of _ (by decide +kernel)) ggX3_put_X3_isBeyond
set_option maxRecDepth 20000 in
theorem ggX3_put_X0_store : GoodIn wsX3_put wsX0_store := goodIn_r _ [88, 89, 90, 91, 92, 86, 93, 94, 95, 96, 97, 98, 99, 112] (by decide +kernel) (by decide +kernel)
set_option maxRecDepth 20000 in
theorem gX3_put_X0_store_n50 : GoodIn wsX3_put (wsX0_store) := ggX3_put_X0_store
theorem dX3_put_0 : decode cX3_put 0 = .ok (.iload_n 1, 1) := by decide +kernel
theorem dX3_put_1 : decode cX3_put 1 = .ok (.invokestatic 58, 3) := by decide +kernel
theorem dX3_put_4 : decode cX3_put 4 = .ok (.istore 5, 2) := by decide +kernel
theorem dX3_put_6 : decode cX3_put 6 = .ok (.iload 5, 2) := by decide +kernel
theorem dX3_put_8 : decode cX3_put 8 = .ok (.ifCond .ge 13, 3) := by decide +kernel
theorem dX3_put_11 : decode cX3_put 11 = .ok (.new 30, 3) := by decide +kernel
theorem dX3_put_14 : decode cX3_put 14 = .ok (.dup, 1) := by decide +kernel
theorem dX3_put_15 : decode cX3_put 15 = .ok (.ldc 64, 2) := by decide +kernel
theorem dX3_put_17 : decode cX3_put 17 = .ok (.invokespecial 34, 3) := by decide +kernel
theorem dX3_put_20 : decode cX3_put 20 = .ok (.athrow, 1) := by decide +kernel
theorem dX3_put_21 : decode cX3_put 21 = .ok (.aload_n 0, 1) := by decide +kernel
theorem dX3_put_22 : decode cX3_put 22 = .ok (.getfield 54, 3) := by decide +kernel
theorem dX3_put_25 : decode cX3_put 25 = .ok (.i2l, 1) := by decide +kernel
theorem dX3_put_26 : decode cX3_put 26 = .ok (.invokestatic 37, 3) := by decide +kernel
theorem dX3_put_29 : decode cX3_put 29 = .ok (.ifCond .eq 13, 3) := by decide +kernel
theorem dX3_put_32 : decode cX3_put 32 = .ok (.new 41, 3) := by decide +kernel
theorem dX3_put_35 : decode cX3_put 35 = .ok (.dup, 1) := by decide +kernel
theorem dX3_put_36 : decode cX3_put 36 = .ok (.ldc 66, 2) := by decide +kernel
theorem dX3_put_38 : decode cX3_put 38 = .ok (.invokespecial 45, 3) := by decide +kernel
theorem dX3_put_41 : decode cX3_put 41 = .ok (.athrow, 1) := by decide +kernel
theorem dX3_put_42 : decode cX3_put 42 = .ok (.iload 5, 2) := by decide +kernel
theorem dX3_put_44 : decode cX3_put 44 = .ok (.bipush 24, 2) := by decide +kernel
theorem dX3_put_46 : decode cX3_put 46 = .ok (.ishl, 1) := by decide +kernel
theorem dX3_put_47 : decode cX3_put 47 = .ok (.iload_n 2, 1) := by decide +kernel
theorem dX3_put_48 : decode cX3_put 48 = .ok (.sipush 255, 3) := by decide +kernel
theorem dX3_put_51 : decode cX3_put 51 = .ok (.iand, 1) := by decide +kernel
theorem dX3_put_52 : decode cX3_put 52 = .ok (.bipush 16, 2) := by decide +kernel
theorem dX3_put_54 : decode cX3_put 54 = .ok (.ishl, 1) := by decide +kernel
theorem dX3_put_55 : decode cX3_put 55 = .ok (.ior, 1) := by decide +kernel
theorem dX3_put_56 : decode cX3_put 56 = .ok (.iload_n 3, 1) := by decide +kernel
theorem dX3_put_57 : decode cX3_put 57 = .ok (.sipush 255, 3) := by decide +kernel
theorem dX3_put_60 : decode cX3_put 60 = .ok (.iand, 1) := by decide +kernel
theorem dX3_put_61 : decode cX3_put 61 = .ok (.bipush 8, 2) := by decide +kernel
theorem dX3_put_63 : decode cX3_put 63 = .ok (.ishl, 1) := by decide +kernel
theorem dX3_put_64 : decode cX3_put 64 = .ok (.ior, 1) := by decide +kernel
theorem dX3_put_65 : decode cX3_put 65 = .ok (.iload 4, 2) := by decide +kernel
theorem dX3_put_67 : decode cX3_put 67 = .ok (.sipush 255, 3) := by decide +kernel
theorem dX3_put_70 : decode cX3_put 70 = .ok (.iand, 1) := by decide +kernel
theorem dX3_put_71 : decode cX3_put 71 = .ok (.ior, 1) := by decide +kernel
theorem dX3_put_72 : decode cX3_put 72 = .ok (.istore 6, 2) := by decide +kernel
theorem dX3_put_74 : decode cX3_put 74 = .ok (.aload_n 0, 1) := by decide +kernel
theorem dX3_put_75 : decode cX3_put 75 = .ok (.getfield 26, 3) := by decide +kernel
theorem dX3_put_78 : decode cX3_put 78 = .ok (.aload_n 0, 1) := by decide +kernel
theorem dX3_put_79 : decode cX3_put 79 = .ok (.getfield 54, 3) := by decide +kernel
theorem dX3_put_82 : decode cX3_put 82 = .ok (.i2l, 1) := by decide +kernel
theorem dX3_put_83 : decode cX3_put 83 = .ok (.iconst 4, 1) := by decide +kernel
theorem dX3_put_84 : decode cX3_put 84 = .ok (.iload 6, 2) := by decide +kernel
theorem dX3_put_86 : decode cX3_put 86 = .ok (.i2l, 1) := by decide +kernel
theorem dX3_put_87 : decode cX3_put 87 = .ok (.invokevirtual 50, 3) := by decide +kernel
theorem dX3_put_90 : decode cX3_put 90 = .ok (.aload_n 0, 1) := by decide +kernel
theorem dX3_put_91 : decode cX3_put 91 = .ok (.dup, 1) := by decide +kernel
theorem dX3_put_92 : decode cX3_put 92 = .ok (.getfield 54, 3) := by decide +kernel
theorem dX3_put_95 : decode cX3_put 95 = .ok (.iconst 4, 1) := by decide +kernel
theorem dX3_put_96 : decode cX3_put 96 = .ok (.iadd, 1) := by decide +kernel
theorem dX3_put_97 : decode cX3_put 97 = .ok (.putfield 54, 3) := by decide +kernel
theorem dX3_put_100 : decode cX3_put 100 = .ok (.iload 5, 2) := by decide +kernel
theorem dX3_put_102 : decode cX3_put 102 = .ok (.ireturn, 1) := by decide +kernel
set_option maxRecDepth 20000 in
theorem ghX3_go_X3_doNext_h : GoodIn wsX3_go ([.code yX3_doNext cX3_doNext 7 (some .int)] : List Cond) := goodIn_r _ [8] (by decide +kernel) (by decide +kernel)
set_option maxRecDepth 20000 in
theorem ghX3_go_X3_doNext_wsX3_doNext_r1 : GoodIn wsX3_go wsX3_doNext_r1 := goodIn_r _ [3, 9, 10, 11, 12, 7, 13, 14, 15, 16, 17, 18, 19, 20, 21, 22, 23, 24, 25, 26, 27, 28, 29, 30] (by decide +kernel) (by decide +kernel)
set_option maxRecDepth 20000 in
theorem ghX3_go_X3_doNext_wsX3_doNext_r2 : GoodIn wsX3_go wsX3_doNext_r2 := goodIn_r _ [31, 32, 33, 34, 35, 36, 37, 38, 39, 40, 41, 42, 43, 44, 45, 46, 47, 48, 49, 50, 51, 52, 53, 54] (by decide +kernel) (by decide +kernel)
set_option maxRecDepth 20000 in
theorem ghX3_go_X3_doNext_wsX3_doNext_r3 : GoodIn wsX3_go wsX3_doNext_r3 := goodIn_r _ [55, 56, 57, 58, 59, 60, 61, 62, 63, 64, 65, 66, 67, 68, 69, 70, 71, 72, 73, 74, 75, 76, 77, 78] (by decide +kernel) (by decide +kernel)
set_option maxRecDepth 20000 in
theorem ghX3_go_X3_doNext_wsX3_doNext_r4 : GoodIn wsX3_go wsX3_doNext_r4 := goodIn_r _ [79, 80, 81, 82, 83, 84, 85, 86, 87, 88, 89, 90, 91, 92, 93, 94, 95, 96, 97, 98, 99, 100, 101, 102] (by decide +kernel) (by decide +kernel)
set_option maxRecDepth 20000 in
theorem ghX3_go_X3_doNext_wsX3_doNext_r5 : GoodIn wsX3_go wsX3_doNext_r5 := goodIn_r _ [103, 104, 105, 106, 107, 108, 109, 110, 111, 112, 113, 114, 115, 116, 117, 118, 119, 120, 121, 122, 123, 124, 125, 126] (by decide +kernel) (by decide +kernel)
set_option maxRecDepth 20000 in
theorem ghX3_go_X3_doNext_wsX3_doNext_r6 : GoodIn wsX3_go wsX3_doNext_r6 := goodIn_r _ [127, 128, 129, 130, 131, 132, 133, 134, 135, 136, 137, 138, 139, 140, 141, 142, 143, 144, 145, 146, 147, 148, 149, 150] (by decide +kernel) (by decide +kernel)
set_option maxRecDepth 20000 in
theorem ghX3_go_X3_doNext_wsX3_doNext_r7 : GoodIn wsX3_go wsX3_doNext_r7 := goodIn_r _ [151, 152, 153, 154, 155, 156, 157, 158, 159, 160, 161, 162, 163, 164, 165, 166, 167, 168, 169, 170, 171, 172, 173, 174] (by decide +kernel) (by decide +kernel)
set_option maxRecDepth 20000 in
theorem ghX3_go_X3_doNext_wsX3_doNext_r8 : GoodIn wsX3_go wsX3_doNext_r8 := goodIn_r _ [175, 176, 177, 178, 179, 180, 181, 182, 183, 184, 185, 186, 187, 188, 189, 190, 191, 192, 193, 194, 195, 196, 197, 198] (by decide +kernel) (by decide +kernel)
set_option maxRecDepth 20000 in
theorem ghX3_go_X3_doNext_wsX3_doNext_r9 : GoodIn wsX3_go wsX3_doNext_r9 := goodIn_r _ [199, 200, 201, 202, 203, 204, 205, 206, 207, 208, 209, 210, 211, 212, 213, 214, 215, 216, 217, 218, 219, 220, 221, 222] (by decide +kernel) (by decide +kernel)
set_option maxRecDepth 20000 in
theorem ghX3_go_X3_doNext_wsX3_doNext_r10 : GoodIn wsX3_go wsX3_doNext_r10 := goodIn_r _ [223] (by decide +kernel) (by decide +kernel)
set_option maxRecDepth 20000 in
theorem ghX3_go_X3_doNext_wsX30 : GoodIn wsX3_go wsX30 := goodIn_r _ [224, 225, 226, 227, 228, 229, 230, 231, 232, 233, 234, 235] (by decide +kernel) (by decide +kernel)
set_option maxRecDepth 20000 in
theorem ghX3_go_X3_doNext_wsX00 : GoodIn wsX3_go wsX00 := goodIn_r _ [236] (by decide +kernel) (by decide +kernel)
theorem ggX3_go_X3_doNext : GoodIn wsX3_go wsX3_doNext := (goodIn_app (a := [.code yX3_doNext cX3_doNext 7 (some .int)]) ghX3_go_X3_doNext_h (goodIn_app (goodIn_app (goodIn_app ghX3_go_X3_doNext_wsX3_doNext_r1 (goodIn_app ghX3_go_X3_doNext_wsX3_doNext_r2 (goodIn_app ghX3_go_X3_doNext_wsX3_doNext_r3 (goodIn_app ghX3_go_X3_doNext_wsX3_doNext_r4 (goodIn_app ghX3_go_X3_doNext_wsX3_doNext_r5 (goodIn_app ghX3_go_X3_doNext_wsX3_doNext_r6 (goodIn_app ghX3_go_X3_doNext_wsX3_doNext_r7 (goodIn_app ghX3_go_X3_doNext_wsX3_doNext_r8 (goodIn_app ghX3_go_X3_doNext_wsX3_doNext_r9 ghX3_go_X3_doNext_wsX3_doNext_r10))))))))) ghX3_go_X3_doNext_wsX30) ghX3_go_X3_doNext_wsX00))
set_option maxRecDepth 20000 in
theorem gX3_go_X3_doNext : GoodIn wsX3_go (wsV RX3 77 RX3 yX3_doNext wsX3_doNext) := goodIn_app (goodIn_of _ (by decide +kernel)) ggX3_go_X3_doNext
theorem dX3_go_0 : decode cX3_go 0 = .ok (.iload_n 2, 1) := by decide +kernel
theorem dX3_go_1 : decode cX3_go 1 = .ok (.iconst 1, 1) := by decide +kernel
theorem dX3_go_2 : decode cX3_go 2 = .ok (.if_icmp .lt 10, 3) := by decide +kernel
theorem dX3_go_5 : decode cX3_go 5 = .ok (.iload_n 2, 1) := by decide +kernel
theorem dX3_go_6 : decode cX3_go 6 = .ok (.sipush 1000, 3) := by decide +kernel
theorem dX3_go_9 : decode cX3_go 9 = .ok (.if_icmp .le 13, 3) := by decide +kernel
theorem dX3_go_12 : decode cX3_go 12 = .ok (.new 68, 3) := by decide +kernel
theorem dX3_go_15 : decode cX3_go 15 = .ok (.dup, 1) := by decide +kernel
theorem dX3_go_16 : decode cX3_go 16 = .ok (.ldc 70, 2) := by decide +kernel
theorem dX3_go_18 : decode cX3_go 18 = .ok (.invokespecial 72, 3) := by decide +kernel
theorem dX3_go_21 : decode cX3_go 21 = .ok (.athrow, 1) := by decide +kernel
theorem dX3_go_22 : decode cX3_go 22 = .ok (.iload_n 1, 1) := by decide +kernel
theorem dX3_go_23 : decode cX3_go 23 = .ok (.ifCond .lt 12, 3) := by decide +kernel
theorem dX3_go_26 : decode cX3_go 26 = .ok (.aload_n 0, 1) := by decide +kernel
theorem dX3_go_27 : decode cX3_go 27 = .ok (.iload_n 1, 1) := by decide +kernel
theorem dX3_go_28 : decode cX3_go 28 = .ok (.bipush (-4), 2) := by decide +kernel
theorem dX3_go_30 : decode cX3_go 30 = .ok (.iand, 1) := by decide +kernel
theorem dX3_go_31 : decode cX3_go 31 = .ok (.i2l, 1) := by decide +kernel
theorem dX3_go_32 : decode cX3_go 32 = .ok (.putfield 73, 3) := by decide +kernel
theorem dX3_go_35 : decode cX3_go 35 = .ok (.iconst 0, 1) := by decide +kernel
theorem dX3_go_36 : decode cX3_go 36 = .ok (.istore_n 3, 1) := by decide +kernel
theorem dX3_go_37 : decode cX3_go 37 = .ok (.iload_n 3, 1) := by decide +kernel
theorem dX3_go_38 : decode cX3_go 38 = .ok (.iload_n 2, 1) := by decide +kernel
theorem dX3_go_39 : decode cX3_go 39 = .ok (.if_icmp .ge 23, 3) := by decide +kernel
theorem dX3_go_42 : decode cX3_go 42 = .ok (.aload_n 0, 1) := by decide +kernel
theorem dX3_go_43 : decode cX3_go 43 = .ok (.invokevirtual 77, 3) := by decide +kernel
theorem dX3_go_46 : decode cX3_go 46 = .ok (.istore 4, 2) := by decide +kernel
theorem dX3_go_48 : decode cX3_go 48 = .ok (.iload 4, 2) := by decide +kernel
theorem dX3_go_50 : decode cX3_go 50 = .ok (.ifCond .eq 6, 3) := by decide +kernel
theorem dX3_go_53 : decode cX3_go 53 = .ok (.iload 4, 2) := by decide +kernel
theorem dX3_go_55 : decode cX3_go 55 = .ok (.ireturn, 1) := by decide +kernel
theorem dX3_go_56 : decode cX3_go 56 = .ok (.iinc 3 1, 3) := by decide +kernel
theorem dX3_go_59 : decode cX3_go 59 = .ok (.goto (-22), 3) := by decide +kernel
theorem dX3_go_62 : decode cX3_go 62 = .ok (.iconst 0, 1) := by decide +kernel
theorem dX3_go_63 : decode cX3_go 63 = .ok (.ireturn, 1) := by decide +kernel
theorem dX3_mark_0 : decode cX3_mark 0 = .ok (.lconst 0, 1) := by decide +kernel
theorem dX3_mark_1 : decode cX3_mark 1 = .ok (.lstore_n 1, 1) := by decide +kernel
theorem dX3_mark_2 : decode cX3_mark 2 = .ok (.iconst 0, 1) := by decide +kernel
theorem dX3_mark_3 : decode cX3_mark 3 = .ok (.istore_n 3, 1) := by decide +kernel
theorem dX3_mark_4 : decode cX3_mark 4 = .ok (.iload_n 3, 1) := by decide +kernel
theorem dX3_mark_5 : decode cX3_mark 5 = .ok (.sipush 256, 3) := by decide +kernel
theorem dX3_mark_8 : decode cX3_mark 8 = .ok (.if_icmp .ge 29, 3) := by decide +kernel
theorem dX3_mark_11 : decode cX3_mark 11 = .ok (.lload_n 1, 1) := by decide +kernel
theorem dX3_mark_12 : decode cX3_mark 12 = .ok (.aload_n 0, 1) := by decide +kernel
theorem dX3_mark_13 : decode cX3_mark 13 = .ok (.getfield 9, 3) := by decide +kernel
theorem dX3_mark_16 : decode cX3_mark 16 = .ok (.iload_n 3, 1) := by decide +kernel
theorem dX3_mark_17 : decode cX3_mark 17 = .ok (.laload, 1) := by decide +kernel
theorem dX3_mark_18 : decode cX3_mark 18 = .ok (.iconst 2, 1) := by decide +kernel
theorem dX3_mark_19 : decode cX3_mark 19 = .ok (.iload_n 3, 1) := by decide +kernel
theorem dX3_mark_20 : decode cX3_mark 20 = .ok (.imul, 1) := by decide +kernel
theorem dX3_mark_21 : decode cX3_mark 21 = .ok (.iconst 1, 1) := by decide +kernel
theorem dX3_mark_22 : decode cX3_mark 22 = .ok (.iadd, 1) := by decide +kernel
theorem dX3_mark_23 : decode cX3_mark 23 = .ok (.i2l, 1) := by decide +kernel
theorem dX3_mark_24 : decode cX3_mark 24 = .ok (.lmul, 1) := by decide +kernel
theorem dX3_mark_25 : decode cX3_mark 25 = .ok (.ldc2_w 81, 3) := by decide +kernel
theorem dX3_mark_28 : decode cX3_mark 28 = .ok (.lmul, 1) := by decide +kernel
theorem dX3_mark_29 : decode cX3_mark 29 = .ok (.ladd, 1) := by decide +kernel
theorem dX3_mark_30 : decode cX3_mark 30 = .ok (.lstore_n 1, 1) := by decide +kernel
theorem dX3_mark_31 : decode cX3_mark 31 = .ok (.iinc 3 1, 3) := by decide +kernel
theorem dX3_mark_34 : decode cX3_mark 34 = .ok (.goto (-30), 3) := by decide +kernel
theorem dX3_mark_37 : decode cX3_mark 37 = .ok (.lload_n 1, 1) := by decide +kernel
theorem dX3_mark_38 : decode cX3_mark 38 = .ok (.lreturn, 1) := by decide +kernel
theorem dX3_tally_0 : decode cX3_tally 0 = .ok (.iload_n 1, 1) := by decide +kernel
theorem dX3_tally_1 : decode cX3_tally 1 = .ok (.ifCond .lt 10, 3) := by decide +kernel
theorem dX3_tally_4 : decode cX3_tally 4 = .ok (.iload_n 1, 1) := by decide +kernel
theorem dX3_tally_5 : decode cX3_tally 5 = .ok (.sipush 256, 3) := by decide +kernel
theorem dX3_tally_8 : decode cX3_tally 8 = .ok (.if_icmp .lt 13, 3) := by decide +kernel
theorem dX3_tally_11 : decode cX3_tally 11 = .ok (.new 30, 3) := by decide +kernel
theorem dX3_tally_14 : decode cX3_tally 14 = .ok (.dup, 1) := by decide +kernel
theorem dX3_tally_15 : decode cX3_tally 15 = .ok (.ldc 83, 2) := by decide +kernel
theorem dX3_tally_17 : decode cX3_tally 17 = .ok (.invokespecial 34, 3) := by decide +kernel
theorem dX3_tally_20 : decode cX3_tally 20 = .ok (.athrow, 1) := by decide +kernel
theorem dX3_tally_21 : decode cX3_tally 21 = .ok (.aload_n 0, 1) := by decide +kernel
theorem dX3_tally_22 : decode cX3_tally 22 = .ok (.getfield 16, 3) := by decide +kernel
theorem dX3_tally_25 : decode cX3_tally 25 = .ok (.iload_n 1, 1) := by decide +kernel
theorem dX3_tally_26 : decode cX3_tally 26 = .ok (.laload, 1) := by decide +kernel
theorem dX3_tally_27 : decode cX3_tally 27 = .ok (.lreturn, 1) := by decide +kernel
theorem dX3_spend_0 : decode cX3_spend 0 = .ok (.iload_n 1, 1) := by decide +kernel
theorem dX3_spend_1 : decode cX3_spend 1 = .ok (.sipush (-1000), 3) := by decide +kernel
theorem dX3_spend_4 : decode cX3_spend 4 = .ok (.if_icmp .lt 10, 3) := by decide +kernel
theorem dX3_spend_7 : decode cX3_spend 7 = .ok (.iload_n 1, 1) := by decide +kernel
theorem dX3_spend_8 : decode cX3_spend 8 = .ok (.sipush 1000, 3) := by decide +kernel
theorem dX3_spend_11 : decode cX3_spend 11 = .ok (.if_icmp .le 13, 3) := by decide +kernel
theorem dX3_spend_14 : decode cX3_spend 14 = .ok (.new 68, 3) := by decide +kernel
theorem dX3_spend_17 : decode cX3_spend 17 = .ok (.dup, 1) := by decide +kernel
theorem dX3_spend_18 : decode cX3_spend 18 = .ok (.ldc 85, 2) := by decide +kernel
theorem dX3_spend_20 : decode cX3_spend 20 = .ok (.invokespecial 72, 3) := by decide +kernel
theorem dX3_spend_23 : decode cX3_spend 23 = .ok (.athrow, 1) := by decide +kernel
theorem dX3_spend_24 : decode cX3_spend 24 = .ok (.aload_n 0, 1) := by decide +kernel
theorem dX3_spend_25 : decode cX3_spend 25 = .ok (.dup, 1) := by decide +kernel
theorem dX3_spend_26 : decode cX3_spend 26 = .ok (.getfield 87, 3) := by decide +kernel
theorem dX3_spend_29 : decode cX3_spend 29 = .ok (.iload_n 1, 1) := by decide +kernel
theorem dX3_spend_30 : decode cX3_spend 30 = .ok (.i2l, 1) := by decide +kernel
theorem dX3_spend_31 : decode cX3_spend 31 = .ok (.ladd, 1) := by decide +kernel
theorem dX3_spend_32 : decode cX3_spend 32 = .ok (.putfield 87, 3) := by decide +kernel
theorem dX3_spend_35 : decode cX3_spend 35 = .ok (.aload_n 0, 1) := by decide +kernel
theorem dX3_spend_36 : decode cX3_spend 36 = .ok (.getfield 87, 3) := by decide +kernel
theorem dX3_spend_39 : decode cX3_spend 39 = .ok (.lreturn, 1) := by decide +kernel
theorem dX3_output_0 : decode cX3_output 0 = .ok (.iload_n 1, 1) := by decide +kernel
theorem dX3_output_1 : decode cX3_output 1 = .ok (.ifCond .lt 11, 3) := by decide +kernel
theorem dX3_output_4 : decode cX3_output 4 = .ok (.iload_n 1, 1) := by decide +kernel
theorem dX3_output_5 : decode cX3_output 5 = .ok (.aload_n 0, 1) := by decide +kernel
theorem dX3_output_6 : decode cX3_output 6 = .ok (.getfield 90, 3) := by decide +kernel
theorem dX3_output_9 : decode cX3_output 9 = .ok (.if_icmp .lt 13, 3) := by decide +kernel
theorem dX3_output_12 : decode cX3_output 12 = .ok (.new 41, 3) := by decide +kernel
theorem dX3_output_15 : decode cX3_output 15 = .ok (.dup, 1) := by decide +kernel
theorem dX3_output_16 : decode cX3_output 16 = .ok (.ldc 93, 2) := by decide +kernel
theorem dX3_output_18 : decode cX3_output 18 = .ok (.invokespecial 45, 3) := by decide +kernel
theorem dX3_output_21 : decode cX3_output 21 = .ok (.athrow, 1) := by decide +kernel
theorem dX3_output_22 : decode cX3_output 22 = .ok (.aload_n 0, 1) := by decide +kernel
theorem dX3_output_23 : decode cX3_output 23 = .ok (.getfield 19, 3) := by decide +kernel
theorem dX3_output_26 : decode cX3_output 26 = .ok (.iload_n 1, 1) := by decide +kernel
theorem dX3_output_27 : decode cX3_output 27 = .ok (.baload, 1) := by decide +kernel
theorem dX3_output_28 : decode cX3_output 28 = .ok (.sipush 255, 3) := by decide +kernel
theorem dX3_output_31 : decode cX3_output 31 = .ok (.iand, 1) := by decide +kernel
theorem dX3_output_32 : decode cX3_output 32 = .ok (.ireturn, 1) := by decide +kernel
theorem dX3_count_0 : decode cX3_count 0 = .ok (.iload_n 1, 1) := by decide +kernel
theorem dX3_count_1 : decode cX3_count 1 = .ok (.tableswitch 80 0 6 #[43, 48, 53, 58, 64, 70, 75], 43) := by decide +kernel
theorem dX3_count_44 : decode cX3_count 44 = .ok (.aload_n 0, 1) := by decide +kernel
theorem dX3_count_45 : decode cX3_count 45 = .ok (.getfield 73, 3) := by decide +kernel
theorem dX3_count_48 : decode cX3_count 48 = .ok (.lreturn, 1) := by decide +kernel
theorem dX3_count_49 : decode cX3_count 49 = .ok (.aload_n 0, 1) := by decide +kernel
theorem dX3_count_50 : decode cX3_count 50 = .ok (.getfield 87, 3) := by decide +kernel
theorem dX3_count_53 : decode cX3_count 53 = .ok (.lreturn, 1) := by decide +kernel
theorem dX3_count_54 : decode cX3_count 54 = .ok (.aload_n 0, 1) := by decide +kernel
theorem dX3_count_55 : decode cX3_count 55 = .ok (.getfield 95, 3) := by decide +kernel
theorem dX3_count_58 : decode cX3_count 58 = .ok (.lreturn, 1) := by decide +kernel
theorem dX3_count_59 : decode cX3_count 59 = .ok (.aload_n 0, 1) := by decide +kernel
theorem dX3_count_60 : decode cX3_count 60 = .ok (.getfield 90, 3) := by decide +kernel
theorem dX3_count_63 : decode cX3_count 63 = .ok (.i2l, 1) := by decide +kernel
theorem dX3_count_64 : decode cX3_count 64 = .ok (.lreturn, 1) := by decide +kernel
theorem dX3_count_65 : decode cX3_count 65 = .ok (.aload_n 0, 1) := by decide +kernel
theorem dX3_count_66 : decode cX3_count 66 = .ok (.getfield 54, 3) := by decide +kernel
theorem dX3_count_69 : decode cX3_count 69 = .ok (.i2l, 1) := by decide +kernel
theorem dX3_count_70 : decode cX3_count 70 = .ok (.lreturn, 1) := by decide +kernel
theorem dX3_count_71 : decode cX3_count 71 = .ok (.aload_n 0, 1) := by decide +kernel
theorem dX3_count_72 : decode cX3_count 72 = .ok (.getfield 98, 3) := by decide +kernel
theorem dX3_count_75 : decode cX3_count 75 = .ok (.lreturn, 1) := by decide +kernel
theorem dX3_count_76 : decode cX3_count 76 = .ok (.aload_n 0, 1) := by decide +kernel
theorem dX3_count_77 : decode cX3_count 77 = .ok (.getfield 101, 3) := by decide +kernel
theorem dX3_count_80 : decode cX3_count 80 = .ok (.lreturn, 1) := by decide +kernel
theorem dX3_count_81 : decode cX3_count 81 = .ok (.ldc2_w 104, 3) := by decide +kernel
theorem dX3_count_84 : decode cX3_count 84 = .ok (.lreturn, 1) := by decide +kernel
theorem dX3_isBeyond_0 : decode cX3_isBeyond 0 = .ok (.lload_n 0, 1) := by decide +kernel
theorem dX3_isBeyond_1 : decode cX3_isBeyond 1 = .ok (.lconst 0, 1) := by decide +kernel
theorem dX3_isBeyond_2 : decode cX3_isBeyond 2 = .ok (.lcmp, 1) := by decide +kernel
theorem dX3_isBeyond_3 : decode cX3_isBeyond 3 = .ok (.ifCond .lt 11, 3) := by decide +kernel
theorem dX3_isBeyond_6 : decode cX3_isBeyond 6 = .ok (.lload_n 0, 1) := by decide +kernel
theorem dX3_isBeyond_7 : decode cX3_isBeyond 7 = .ok (.ldc2_w 106, 3) := by decide +kernel
theorem dX3_isBeyond_10 : decode cX3_isBeyond 10 = .ok (.lcmp, 1) := by decide +kernel
theorem dX3_isBeyond_11 : decode cX3_isBeyond 11 = .ok (.ifCond .lt 7, 3) := by decide +kernel
theorem dX3_isBeyond_14 : decode cX3_isBeyond 14 = .ok (.iconst 1, 1) := by decide +kernel
theorem dX3_isBeyond_15 : decode cX3_isBeyond 15 = .ok (.goto 4, 3) := by decide +kernel
theorem dX3_isBeyond_18 : decode cX3_isBeyond 18 = .ok (.iconst 0, 1) := by decide +kernel
theorem dX3_isBeyond_19 : decode cX3_isBeyond 19 = .ok (.ireturn, 1) := by decide +kernel
theorem dX3_opOf_0 : decode cX3_opOf 0 = .ok (.iload_n 0, 1) := by decide +kernel
theorem dX3_opOf_1 : decode cX3_opOf 1 = .ok (.bipush 24, 2) := by decide +kernel
theorem dX3_opOf_3 : decode cX3_opOf 3 = .ok (.iushr, 1) := by decide +kernel
theorem dX3_opOf_4 : decode cX3_opOf 4 = .ok (.ireturn, 1) := by decide +kernel
theorem dX3_byteX_0 : decode cX3_byteX 0 = .ok (.iload_n 0, 1) := by decide +kernel
theorem dX3_byteX_1 : decode cX3_byteX 1 = .ok (.bipush 16, 2) := by decide +kernel
theorem dX3_byteX_3 : decode cX3_byteX 3 = .ok (.ishr, 1) := by decide +kernel
theorem dX3_byteX_4 : decode cX3_byteX 4 = .ok (.sipush 255, 3) := by decide +kernel
theorem dX3_byteX_7 : decode cX3_byteX 7 = .ok (.iand, 1) := by decide +kernel
theorem dX3_byteX_8 : decode cX3_byteX 8 = .ok (.ireturn, 1) := by decide +kernel
theorem dX3_byteY_0 : decode cX3_byteY 0 = .ok (.iload_n 0, 1) := by decide +kernel
theorem dX3_byteY_1 : decode cX3_byteY 1 = .ok (.bipush 8, 2) := by decide +kernel
theorem dX3_byteY_3 : decode cX3_byteY 3 = .ok (.ishr, 1) := by decide +kernel
theorem dX3_byteY_4 : decode cX3_byteY 4 = .ok (.sipush 255, 3) := by decide +kernel
theorem dX3_byteY_7 : decode cX3_byteY 7 = .ok (.iand, 1) := by decide +kernel
theorem dX3_byteY_8 : decode cX3_byteY 8 = .ok (.ireturn, 1) := by decide +kernel
theorem dX3_byteZ_0 : decode cX3_byteZ 0 = .ok (.iload_n 0, 1) := by decide +kernel
theorem dX3_byteZ_1 : decode cX3_byteZ 1 = .ok (.sipush 255, 3) := by decide +kernel
theorem dX3_byteZ_4 : decode cX3_byteZ 4 = .ok (.iand, 1) := by decide +kernel
theorem dX3_byteZ_5 : decode cX3_byteZ 5 = .ok (.ireturn, 1) := by decide +kernel
theorem dX3_wydeYZ_0 : decode cX3_wydeYZ 0 = .ok (.iload_n 0, 1) := by decide +kernel
theorem dX3_wydeYZ_1 : decode cX3_wydeYZ 1 = .ok (.ldc 108, 2) := by decide +kernel
theorem dX3_wydeYZ_3 : decode cX3_wydeYZ 3 = .ok (.iand, 1) := by decide +kernel
theorem dX3_wydeYZ_4 : decode cX3_wydeYZ 4 = .ok (.ireturn, 1) := by decide +kernel
set_option maxRecDepth 20000 in
theorem ggX3_doNext_X3_isBeyond : GoodIn wsX3_doNext wsX3_isBeyond := goodIn_r _ [7, 8] (by decide +kernel) (by decide +kernel)
set_option maxRecDepth 20000 in
theorem gX3_doNext_X3_isBeyond : GoodIn wsX3_doNext (va_wsS RX3 37 yX3_isBeyond wsX3_isBeyond) := goodIn_app (goodIn_of _ (by decide +kernel)) ggX3_doNext_X3_isBeyond
set_option maxRecDepth 20000 in
theorem ggX3_doNext_X0_load : GoodIn wsX3_doNext wsX0_load := goodIn_r _ [12, 13, 14, 15, 10, 16, 17, 18, 19, 20, 21, 22, 23, 230] (by decide +kernel) (by decide +kernel)
set_option maxRecDepth 20000 in
theorem gX3_doNext_X0_load_n46 : GoodIn wsX3_doNext (wsX0_load) := ggX3_doNext_X0_load
set_option maxRecDepth 20000 in
theorem ggX3_doNext_X3_followFetch : GoodIn wsX3_doNext wsX3_followFetch := goodIn_r _ [27, 28, 29, 3, 30, 31, 6, 32, 33, 34, 35, 36, 37, 38, 218, 219, 220, 221, 222, 223, 224, 225, 226, 227, 228, 229] (by decide +kernel) (by decide +kernel)
set_option maxRecDepth 20000 in
theorem gX3_doNext_X3_followFetch : GoodIn wsX3_doNext (wsV RX3 109 RX3 yX3_followFetch wsX3_followFetch) := goodIn_app (goodIn_of _ (by decide +kernel)) ggX3_doNext_X3_followFetch
set_option maxRecDepth 20000 in
theorem ggX3_doNext_X3_isLegal : GoodIn wsX3_doNext wsX3_isLegal := goodIn_r _ [41, 42, 43, 6, 44, 36, 37, 38, 33, 34, 35] (by decide +kernel) (by decide +kernel)
set_option maxRecDepth 20000 in
theorem gX3_doNext_X3_isLegal : GoodIn wsX3_doNext (va_wsS RX3 113 yX3_isLegal wsX3_isLegal) := goodIn_app (goodIn_of _ (by decide +kernel)) ggX3_doNext_X3_isLegal
set_option maxRecDepth 20000 in
theorem ggX3_doNext_X3_byteY : GoodIn wsX3_doNext wsX3_byteY := goodIn_r _ [32] (by decide +kernel) (by decide +kernel)
set_option maxRecDepth 20000 in
theorem gX3_doNext_X3_byteY : GoodIn wsX3_doNext (va_wsS RX3 117 yX3_byteY wsX3_byteY) := goodIn_app (goodIn_of _ (by decide +kernel)) ggX3_doNext_X3_byteY
set_option maxRecDepth 20000 in
theorem ggX3_doNext_X3_operandZ : GoodIn wsX3_doNext wsX3_operandZ := goodIn_r _ [48, 3, 42, 43, 6, 44, 33, 34, 35, 218, 219, 220, 221, 222, 223, 224, 225, 226, 227, 228, 229] (by decide +kernel) (by decide +kernel)
set_option maxRecDepth 20000 in
theorem gX3_doNext_X3_operandZ : GoodIn wsX3_doNext (wsV RX3 120 RX3 yX3_operandZ wsX3_operandZ) := goodIn_app (goodIn_of _ (by decide +kernel)) ggX3_doNext_X3_operandZ
set_option maxRecDepth 20000 in
theorem ggX3_doNext_X3_opOf : GoodIn wsX3_doNext wsX3_opOf := goodIn_r _ [44] (by decide +kernel) (by decide +kernel)
set_option maxRecDepth 20000 in
theorem gX3_doNext_X3_opOf : GoodIn wsX3_doNext (va_wsS RX3 124 yX3_opOf wsX3_opOf) := goodIn_app (goodIn_of _ (by decide +kernel)) ggX3_doNext_X3_opOf
set_option maxRecDepth 20000 in
theorem ggX3_doNext_X3_isLoadOrStore : GoodIn wsX3_doNext wsX3_isLoadOrStore := goodIn_r _ [51, 52, 53, 6, 54] (by decide +kernel) (by decide +kernel)
set_option maxRecDepth 20000 in
theorem gX3_doNext_X3_isLoadOrStore : GoodIn wsX3_doNext (va_wsS RX3 127 yX3_isLoadOrStore wsX3_isLoadOrStore) := goodIn_app (goodIn_of _ (by decide +kernel)) ggX3_doNext_X3_isLoadOrStore
set_option maxRecDepth 20000 in
theorem ggX3_doNext_X3_bill : GoodIn wsX3_doNext wsX3_bill := goodIn_r _ [58, 59, 60, 61, 62, 63, 64, 6, 65, 218, 219, 220, 221, 222, 223, 224, 225, 226, 227, 228, 229] (by decide +kernel) (by decide +kernel)
set_option maxRecDepth 20000 in
theorem gX3_doNext_X3_bill : GoodIn wsX3_doNext (wsV RX3 130 RX3 yX3_bill wsX3_bill) := goodIn_app (goodIn_of _ (by decide +kernel)) ggX3_doNext_X3_bill
set_option maxRecDepth 20000 in
theorem ghX3_doNext_X3_perform_h : GoodIn wsX3_doNext ([.code yX3_perform cX3_perform 9 none] : List Cond) := goodIn_r _ [69] (by decide +kernel) (by decide +kernel)
set_option maxRecDepth 20000 in
theorem ghX3_doNext_X3_perform_wsX3_perform_r1 : GoodIn wsX3_doNext wsX3_perform_r1 := goodIn_r _ [1, 70, 42, 43, 6, 44, 71, 72, 73, 74, 75, 76, 3, 33, 34, 35, 77, 78, 79, 80, 81, 82, 83, 84] (by decide +kernel) (by decide +kernel)
set_option maxRecDepth 20000 in
theorem ghX3_doNext_X3_perform_wsX3_perform_r2 : GoodIn wsX3_doNext wsX3_perform_r2 := goodIn_r _ [85, 86, 87, 88, 89, 90, 91, 92, 93, 94, 95, 96, 97, 98, 99, 100, 101, 102, 103, 104, 105, 106, 107, 108] (by decide +kernel) (by decide +kernel)
set_option maxRecDepth 20000 in
theorem ghX3_doNext_X3_perform_wsX3_perform_r3 : GoodIn wsX3_doNext wsX3_perform_r3 := goodIn_r _ [109, 110, 111, 112, 113, 114, 115, 116, 29, 36, 37, 38, 117, 118, 119, 120, 121, 122, 123, 124, 125, 126, 127, 128] (by decide +kernel) (by decide +kernel)
set_option maxRecDepth 20000 in
theorem ghX3_doNext_X3_perform_wsX3_perform_r4 : GoodIn wsX3_doNext wsX3_perform_r4 := goodIn_r _ [129, 130, 131, 132, 30, 31, 32, 133, 134, 135, 136, 137, 138, 139, 140, 141, 142, 143, 144, 145, 146, 147, 148, 149] (by decide +kernel) (by decide +kernel)
set_option maxRecDepth 20000 in
theorem ghX3_doNext_X3_perform_wsX3_perform_r5 : GoodIn wsX3_doNext wsX3_perform_r5 := goodIn_r _ [150, 61, 151, 152, 153, 154, 155, 156, 157, 158, 159, 160, 161, 162, 163, 164, 165, 166, 167, 168, 169, 170, 171, 2] (by decide +kernel) (by decide +kernel)
set_option maxRecDepth 20000 in
theorem ghX3_doNext_X3_perform_wsX3_perform_r6 : GoodIn wsX3_doNext wsX3_perform_r6 := goodIn_r _ [52, 53, 54, 9, 10, 11, 12, 13, 14, 15, 16, 17, 18, 19, 20, 21, 22, 23, 172, 173, 174, 175, 176, 177] (by decide +kernel) (by decide +kernel)
set_option maxRecDepth 20000 in
theorem ghX3_doNext_X3_perform_wsX3_perform_r7 : GoodIn wsX3_doNext wsX3_perform_r7 := goodIn_r _ [178, 179, 180, 181, 182, 183, 184, 185, 186, 187, 188, 189, 190, 191, 192, 193, 194, 195, 196, 197, 198, 199, 200, 201] (by decide +kernel) (by decide +kernel)
set_option maxRecDepth 20000 in
theorem ghX3_doNext_X3_perform_wsX3_perform_r8 : GoodIn wsX3_doNext wsX3_perform_r8 := goodIn_r _ [202, 203, 204, 205, 206, 207, 208, 209, 210, 211, 212, 213, 214, 215, 216, 217] (by decide +kernel) (by decide +kernel)
set_option maxRecDepth 20000 in
theorem ghX3_doNext_X3_perform_wsX30 : GoodIn wsX3_doNext wsX30 := goodIn_r _ [218, 219, 220, 221, 222, 223, 224, 225, 226, 227, 228, 229] (by decide +kernel) (by decide +kernel)
set_option maxRecDepth 20000 in
theorem ghX3_doNext_X3_perform_wsX00 : GoodIn wsX3_doNext wsX00 := goodIn_r _ [230] (by decide +kernel) (by decide +kernel)
theorem ggX3_doNext_X3_perform : GoodIn wsX3_doNext wsX3_perform := (goodIn_app (a := [.code yX3_perform cX3_perform 9 none]) ghX3_doNext_X3_perform_h (goodIn_app (goodIn_app (goodIn_app ghX3_doNext_X3_perform_wsX3_perform_r1 (goodIn_app ghX3_doNext_X3_perform_wsX3_perform_r2 (goodIn_app ghX3_doNext_X3_perform_wsX3_perform_r3 (goodIn_app ghX3_doNext_X3_perform_wsX3_perform_r4 (goodIn_app ghX3_doNext_X3_perform_wsX3_perform_r5 (goodIn_app ghX3_doNext_X3_perform_wsX3_perform_r6 (goodIn_app ghX3_doNext_X3_perform_wsX3_perform_r7 ghX3_doNext_X3_perform_wsX3_perform_r8))))))) ghX3_doNext_X3_perform_wsX30) ghX3_doNext_X3_perform_wsX00))
set_option maxRecDepth 20000 in
theorem gX3_doNext_X3_perform : GoodIn wsX3_doNext (wsV RX3 134 RX3 yX3_perform wsX3_perform) := goodIn_app (goodIn_of _ (by decide +kernel)) ggX3_doNext_X3_perform
theorem dX3_doNext_0 : decode cX3_doNext 0 = .ok (.aload_n 0, 1) := by decide +kernel
theorem dX3_doNext_1 : decode cX3_doNext 1 = .ok (.getfield 73, 3) := by decide +kernel
theorem dX3_doNext_4 : decode cX3_doNext 4 = .ok (.invokestatic 37, 3) := by decide +kernel
theorem dX3_doNext_7 : decode cX3_doNext 7 = .ok (.ifCond .eq 5, 3) := by decide +kernel
theorem dX3_doNext_10 : decode cX3_doNext 10 = .ok (.iconst 3, 1) := by decide +kernel
theorem dX3_doNext_11 : decode cX3_doNext 11 = .ok (.ireturn, 1) := by decide +kernel
theorem dX3_doNext_12 : decode cX3_doNext 12 = .ok (.aload_n 0, 1) := by decide +kernel
theorem dX3_doNext_13 : decode cX3_doNext 13 = .ok (.getfield 26, 3) := by decide +kernel
theorem dX3_doNext_16 : decode cX3_doNext 16 = .ok (.aload_n 0, 1) := by decide +kernel
theorem dX3_doNext_17 : decode cX3_doNext 17 = .ok (.getfield 73, 3) := by decide +kernel
theorem dX3_doNext_20 : decode cX3_doNext 20 = .ok (.iconst 4, 1) := by decide +kernel
theorem dX3_doNext_21 : decode cX3_doNext 21 = .ok (.invokevirtual 46, 3) := by decide +kernel
theorem dX3_doNext_24 : decode cX3_doNext 24 = .ok (.l2i, 1) := by decide +kernel
theorem dX3_doNext_25 : decode cX3_doNext 25 = .ok (.istore_n 1, 1) := by decide +kernel
theorem dX3_doNext_26 : decode cX3_doNext 26 = .ok (.aload_n 0, 1) := by decide +kernel
theorem dX3_doNext_27 : decode cX3_doNext 27 = .ok (.iload_n 1, 1) := by decide +kernel
theorem dX3_doNext_28 : decode cX3_doNext 28 = .ok (.invokevirtual 109, 3) := by decide +kernel
theorem dX3_doNext_31 : decode cX3_doNext 31 = .ok (.iload_n 1, 1) := by decide +kernel
theorem dX3_doNext_32 : decode cX3_doNext 32 = .ok (.invokestatic 113, 3) := by decide +kernel
theorem dX3_doNext_35 : decode cX3_doNext 35 = .ok (.ifCond .ne 5, 3) := by decide +kernel
theorem dX3_doNext_38 : decode cX3_doNext 38 = .ok (.iconst 2, 1) := by decide +kernel
theorem dX3_doNext_39 : decode cX3_doNext 39 = .ok (.ireturn, 1) := by decide +kernel
theorem dX3_doNext_40 : decode cX3_doNext 40 = .ok (.aload_n 0, 1) := by decide +kernel
theorem dX3_doNext_41 : decode cX3_doNext 41 = .ok (.getfield 9, 3) := by decide +kernel
theorem dX3_doNext_44 : decode cX3_doNext 44 = .ok (.iload_n 1, 1) := by decide +kernel
theorem dX3_doNext_45 : decode cX3_doNext 45 = .ok (.invokestatic 117, 3) := by decide +kernel
theorem dX3_doNext_48 : decode cX3_doNext 48 = .ok (.laload, 1) := by decide +kernel
theorem dX3_doNext_49 : decode cX3_doNext 49 = .ok (.lstore_n 2, 1) := by decide +kernel
theorem dX3_doNext_50 : decode cX3_doNext 50 = .ok (.aload_n 0, 1) := by decide +kernel
theorem dX3_doNext_51 : decode cX3_doNext 51 = .ok (.iload_n 1, 1) := by decide +kernel
theorem dX3_doNext_52 : decode cX3_doNext 52 = .ok (.invokevirtual 120, 3) := by decide +kernel
theorem dX3_doNext_55 : decode cX3_doNext 55 = .ok (.lstore 4, 2) := by decide +kernel
theorem dX3_doNext_57 : decode cX3_doNext 57 = .ok (.iload_n 1, 1) := by decide +kernel
theorem dX3_doNext_58 : decode cX3_doNext 58 = .ok (.invokestatic 124, 3) := by decide +kernel
theorem dX3_doNext_61 : decode cX3_doNext 61 = .ok (.invokestatic 127, 3) := by decide +kernel
theorem dX3_doNext_64 : decode cX3_doNext 64 = .ok (.istore 6, 2) := by decide +kernel
theorem dX3_doNext_66 : decode cX3_doNext 66 = .ok (.iload 6, 2) := by decide +kernel
theorem dX3_doNext_68 : decode cX3_doNext 68 = .ok (.ifCond .eq 15, 3) := by decide +kernel
theorem dX3_doNext_71 : decode cX3_doNext 71 = .ok (.lload_n 2, 1) := by decide +kernel
theorem dX3_doNext_72 : decode cX3_doNext 72 = .ok (.lload 4, 2) := by decide +kernel
theorem dX3_doNext_74 : decode cX3_doNext 74 = .ok (.ladd, 1) := by decide +kernel
theorem dX3_doNext_75 : decode cX3_doNext 75 = .ok (.invokestatic 37, 3) := by decide +kernel
theorem dX3_doNext_78 : decode cX3_doNext 78 = .ok (.ifCond .eq 5, 3) := by decide +kernel
theorem dX3_doNext_81 : decode cX3_doNext 81 = .ok (.iconst 3, 1) := by decide +kernel
theorem dX3_doNext_82 : decode cX3_doNext 82 = .ok (.ireturn, 1) := by decide +kernel
theorem dX3_doNext_83 : decode cX3_doNext 83 = .ok (.aload_n 0, 1) := by decide +kernel
theorem dX3_doNext_84 : decode cX3_doNext 84 = .ok (.iload_n 1, 1) := by decide +kernel
theorem dX3_doNext_85 : decode cX3_doNext 85 = .ok (.invokestatic 124, 3) := by decide +kernel
theorem dX3_doNext_88 : decode cX3_doNext 88 = .ok (.iload 6, 2) := by decide +kernel
theorem dX3_doNext_90 : decode cX3_doNext 90 = .ok (.invokevirtual 130, 3) := by decide +kernel
theorem dX3_doNext_93 : decode cX3_doNext 93 = .ok (.aload_n 0, 1) := by decide +kernel
theorem dX3_doNext_94 : decode cX3_doNext 94 = .ok (.iload_n 1, 1) := by decide +kernel
theorem dX3_doNext_95 : decode cX3_doNext 95 = .ok (.lload_n 2, 1) := by decide +kernel
theorem dX3_doNext_96 : decode cX3_doNext 96 = .ok (.lload 4, 2) := by decide +kernel
theorem dX3_doNext_98 : decode cX3_doNext 98 = .ok (.invokevirtual 134, 3) := by decide +kernel
theorem dX3_doNext_101 : decode cX3_doNext 101 = .ok (.iload_n 1, 1) := by decide +kernel
theorem dX3_doNext_102 : decode cX3_doNext 102 = .ok (.ifCond .ne 7, 3) := by decide +kernel
theorem dX3_doNext_105 : decode cX3_doNext 105 = .ok (.iconst 1, 1) := by decide +kernel
theorem dX3_doNext_106 : decode cX3_doNext 106 = .ok (.goto 4, 3) := by decide +kernel
theorem dX3_doNext_109 : decode cX3_doNext 109 = .ok (.iconst 0, 1) := by decide +kernel
theorem dX3_doNext_110 : decode cX3_doNext 110 = .ok (.ireturn, 1) := by decide +kernel
set_option maxRecDepth 20000 in
theorem ggX3_followFetch_X3_byteY : GoodIn wsX3_followFetch wsX3_byteY := goodIn_r _ [7] (by decide +kernel) (by decide +kernel)
set_option maxRecDepth 20000 in
theorem gX3_followFetch_X3_byteY : GoodIn wsX3_followFetch (va_wsS RX3 117 yX3_byteY wsX3_byteY) := goodIn_app (goodIn_of _ (by decide +kernel)) ggX3_followFetch_X3_byteY
set_option maxRecDepth 20000 in
theorem ggX3_followFetch_X3_byteZ : GoodIn wsX3_followFetch wsX3_byteZ := goodIn_r _ [10] (by decide +kernel) (by decide +kernel)
set_option maxRecDepth 20000 in
theorem gX3_followFetch_X3_byteZ : GoodIn wsX3_followFetch (va_wsS RX3 140 yX3_byteZ wsX3_byteZ) := goodIn_app (goodIn_of _ (by decide +kernel)) ggX3_followFetch_X3_byteZ
set_option maxRecDepth 20000 in
theorem ggX3_followFetch_X3_byteX : GoodIn wsX3_followFetch wsX3_byteX := goodIn_r _ [13] (by decide +kernel) (by decide +kernel)
set_option maxRecDepth 20000 in
theorem gX3_followFetch_X3_byteX : GoodIn wsX3_followFetch (va_wsS RX3 143 yX3_byteX wsX3_byteX) := goodIn_app (goodIn_of _ (by decide +kernel)) ggX3_followFetch_X3_byteX
theorem dX3_followFetch_0 : decode cX3_followFetch 0 = .ok (.aload_n 0, 1) := by decide +kernel
theorem dX3_followFetch_1 : decode cX3_followFetch 1 = .ok (.ldc2_w 138, 3) := by decide +kernel
theorem dX3_followFetch_4 : decode cX3_followFetch 4 = .ok (.aload_n 0, 1) := by decide +kernel
theorem dX3_followFetch_5 : decode cX3_followFetch 5 = .ok (.getfield 98, 3) := by decide +kernel
theorem dX3_followFetch_8 : decode cX3_followFetch 8 = .ok (.lmul, 1) := by decide +kernel
theorem dX3_followFetch_9 : decode cX3_followFetch 9 = .ok (.aload_n 0, 1) := by decide +kernel
theorem dX3_followFetch_10 : decode cX3_followFetch 10 = .ok (.getfield 9, 3) := by decide +kernel
theorem dX3_followFetch_13 : decode cX3_followFetch 13 = .ok (.iload_n 1, 1) := by decide +kernel
theorem dX3_followFetch_14 : decode cX3_followFetch 14 = .ok (.invokestatic 117, 3) := by decide +kernel
theorem dX3_followFetch_17 : decode cX3_followFetch 17 = .ok (.laload, 1) := by decide +kernel
theorem dX3_followFetch_18 : decode cX3_followFetch 18 = .ok (.ladd, 1) := by decide +kernel
theorem dX3_followFetch_19 : decode cX3_followFetch 19 = .ok (.putfield 98, 3) := by decide +kernel
theorem dX3_followFetch_22 : decode cX3_followFetch 22 = .ok (.aload_n 0, 1) := by decide +kernel
theorem dX3_followFetch_23 : decode cX3_followFetch 23 = .ok (.ldc2_w 138, 3) := by decide +kernel
theorem dX3_followFetch_26 : decode cX3_followFetch 26 = .ok (.aload_n 0, 1) := by decide +kernel
theorem dX3_followFetch_27 : decode cX3_followFetch 27 = .ok (.getfield 98, 3) := by decide +kernel
theorem dX3_followFetch_30 : decode cX3_followFetch 30 = .ok (.lmul, 1) := by decide +kernel
theorem dX3_followFetch_31 : decode cX3_followFetch 31 = .ok (.aload_n 0, 1) := by decide +kernel
theorem dX3_followFetch_32 : decode cX3_followFetch 32 = .ok (.getfield 9, 3) := by decide +kernel
theorem dX3_followFetch_35 : decode cX3_followFetch 35 = .ok (.iload_n 1, 1) := by decide +kernel
theorem dX3_followFetch_36 : decode cX3_followFetch 36 = .ok (.invokestatic 140, 3) := by decide +kernel
theorem dX3_followFetch_39 : decode cX3_followFetch 39 = .ok (.laload, 1) := by decide +kernel
theorem dX3_followFetch_40 : decode cX3_followFetch 40 = .ok (.ladd, 1) := by decide +kernel
theorem dX3_followFetch_41 : decode cX3_followFetch 41 = .ok (.putfield 98, 3) := by decide +kernel
theorem dX3_followFetch_44 : decode cX3_followFetch 44 = .ok (.aload_n 0, 1) := by decide +kernel
theorem dX3_followFetch_45 : decode cX3_followFetch 45 = .ok (.ldc2_w 138, 3) := by decide +kernel
theorem dX3_followFetch_48 : decode cX3_followFetch 48 = .ok (.aload_n 0, 1) := by decide +kernel
theorem dX3_followFetch_49 : decode cX3_followFetch 49 = .ok (.getfield 98, 3) := by decide +kernel
theorem dX3_followFetch_52 : decode cX3_followFetch 52 = .ok (.lmul, 1) := by decide +kernel
theorem dX3_followFetch_53 : decode cX3_followFetch 53 = .ok (.aload_n 0, 1) := by decide +kernel
theorem dX3_followFetch_54 : decode cX3_followFetch 54 = .ok (.getfield 9, 3) := by decide +kernel
theorem dX3_followFetch_57 : decode cX3_followFetch 57 = .ok (.iload_n 1, 1) := by decide +kernel
theorem dX3_followFetch_58 : decode cX3_followFetch 58 = .ok (.invokestatic 143, 3) := by decide +kernel
theorem dX3_followFetch_61 : decode cX3_followFetch 61 = .ok (.laload, 1) := by decide +kernel
theorem dX3_followFetch_62 : decode cX3_followFetch 62 = .ok (.ladd, 1) := by decide +kernel
theorem dX3_followFetch_63 : decode cX3_followFetch 63 = .ok (.putfield 98, 3) := by decide +kernel
theorem dX3_followFetch_66 : decode cX3_followFetch 66 = .ok (.return_, 1) := by decide +kernel
set_option maxRecDepth 20000 in
theorem ggX3_isLegal_X3_opOf : GoodIn wsX3_isLegal wsX3_opOf := goodIn_r _ [4] (by decide +kernel) (by decide +kernel)
set_option maxRecDepth 20000 in
theorem gX3_isLegal_X3_opOf : GoodIn wsX3_isLegal (va_wsS RX3 124 yX3_opOf wsX3_opOf) := goodIn_app (goodIn_of _ (by decide +kernel)) ggX3_isLegal_X3_opOf
set_option maxRecDepth 20000 in
theorem ggX3_isLegal_X3_byteX : GoodIn wsX3_isLegal wsX3_byteX := goodIn_r _ [7] (by decide +kernel) (by decide +kernel)
set_option maxRecDepth 20000 in
theorem gX3_isLegal_X3_byteX : GoodIn wsX3_isLegal (va_wsS RX3 143 yX3_byteX wsX3_byteX) := goodIn_app (goodIn_of _ (by decide +kernel)) ggX3_isLegal_X3_byteX
set_option maxRecDepth 20000 in
theorem ggX3_isLegal_X3_byteZ : GoodIn wsX3_isLegal wsX3_byteZ := goodIn_r _ [10] (by decide +kernel) (by decide +kernel)
set_option maxRecDepth 20000 in
theorem gX3_isLegal_X3_byteZ : GoodIn wsX3_isLegal (va_wsS RX3 140 yX3_byteZ wsX3_byteZ) := goodIn_app (goodIn_of _ (by decide +kernel)) ggX3_isLegal_X3_byteZ
theorem dX3_isLegal_0 : decode cX3_isLegal 0 = .ok (.iload_n 0, 1) := by decide +kernel
theorem dX3_isLegal_1 : decode cX3_isLegal 1 = .ok (.invokestatic 124, 3) := by decide +kernel
theorem dX3_isLegal_4 : decode cX3_isLegal 4 = .ok (.istore_n 1, 1) := by decide +kernel
theorem dX3_isLegal_5 : decode cX3_isLegal 5 = .ok (.iload_n 1, 1) := by decide +kernel
theorem dX3_isLegal_6 : decode cX3_isLegal 6 = .ok (.lookupswitch 200 #[(0, 146), (146, 164), (147, 164), (158, 164), (159, 164), (178, 166), (179, 166), (180, 166), (181, 166), (240, 168), (241, 168), (244, 168), (245, 168), (246, 170), (247, 170), (253, 168), (254, 185)], 146) := by decide +kernel
theorem dX3_isLegal_152 : decode cX3_isLegal 152 = .ok (.iload_n 0, 1) := by decide +kernel
theorem dX3_isLegal_153 : decode cX3_isLegal 153 = .ok (.ifCond .eq 11, 3) := by decide +kernel
theorem dX3_isLegal_156 : decode cX3_isLegal 156 = .ok (.iload_n 0, 1) := by decide +kernel
theorem dX3_isLegal_157 : decode cX3_isLegal 157 = .ok (.bipush 8, 2) := by decide +kernel
theorem dX3_isLegal_159 : decode cX3_isLegal 159 = .ok (.ishr, 1) := by decide +kernel
theorem dX3_isLegal_160 : decode cX3_isLegal 160 = .ok (.iconst 1, 1) := by decide +kernel
theorem dX3_isLegal_161 : decode cX3_isLegal 161 = .ok (.if_icmp .ne 7, 3) := by decide +kernel
theorem dX3_isLegal_164 : decode cX3_isLegal 164 = .ok (.iconst 1, 1) := by decide +kernel
theorem dX3_isLegal_165 : decode cX3_isLegal 165 = .ok (.goto 4, 3) := by decide +kernel
theorem dX3_isLegal_168 : decode cX3_isLegal 168 = .ok (.iconst 0, 1) := by decide +kernel
theorem dX3_isLegal_169 : decode cX3_isLegal 169 = .ok (.ireturn, 1) := by decide +kernel
theorem dX3_isLegal_170 : decode cX3_isLegal 170 = .ok (.iconst 1, 1) := by decide +kernel
theorem dX3_isLegal_171 : decode cX3_isLegal 171 = .ok (.ireturn, 1) := by decide +kernel
theorem dX3_isLegal_172 : decode cX3_isLegal 172 = .ok (.iconst 1, 1) := by decide +kernel
theorem dX3_isLegal_173 : decode cX3_isLegal 173 = .ok (.ireturn, 1) := by decide +kernel
theorem dX3_isLegal_174 : decode cX3_isLegal 174 = .ok (.iconst 1, 1) := by decide +kernel
theorem dX3_isLegal_175 : decode cX3_isLegal 175 = .ok (.ireturn, 1) := by decide +kernel
theorem dX3_isLegal_176 : decode cX3_isLegal 176 = .ok (.iload_n 0, 1) := by decide +kernel
theorem dX3_isLegal_177 : decode cX3_isLegal 177 = .ok (.invokestatic 143, 3) := by decide +kernel
theorem dX3_isLegal_180 : decode cX3_isLegal 180 = .ok (.bipush 8, 2) := by decide +kernel
theorem dX3_isLegal_182 : decode cX3_isLegal 182 = .ok (.if_icmp .ge 7, 3) := by decide +kernel
theorem dX3_isLegal_185 : decode cX3_isLegal 185 = .ok (.iconst 1, 1) := by decide +kernel
theorem dX3_isLegal_186 : decode cX3_isLegal 186 = .ok (.goto 4, 3) := by decide +kernel
theorem dX3_isLegal_189 : decode cX3_isLegal 189 = .ok (.iconst 0, 1) := by decide +kernel
theorem dX3_isLegal_190 : decode cX3_isLegal 190 = .ok (.ireturn, 1) := by decide +kernel
theorem dX3_isLegal_191 : decode cX3_isLegal 191 = .ok (.iload_n 0, 1) := by decide +kernel
theorem dX3_isLegal_192 : decode cX3_isLegal 192 = .ok (.invokestatic 140, 3) := by decide +kernel
theorem dX3_isLegal_195 : decode cX3_isLegal 195 = .ok (.bipush 8, 2) := by decide +kernel
theorem dX3_isLegal_197 : decode cX3_isLegal 197 = .ok (.if_icmp .ge 7, 3) := by decide +kernel
theorem dX3_isLegal_200 : decode cX3_isLegal 200 = .ok (.iconst 1, 1) := by decide +kernel
theorem dX3_isLegal_201 : decode cX3_isLegal 201 = .ok (.goto 4, 3) := by decide +kernel
theorem dX3_isLegal_204 : decode cX3_isLegal 204 = .ok (.iconst 0, 1) := by decide +kernel
theorem dX3_isLegal_205 : decode cX3_isLegal 205 = .ok (.ireturn, 1) := by decide +kernel
theorem dX3_isLegal_206 : decode cX3_isLegal 206 = .ok (.iload_n 1, 1) := by decide +kernel
theorem dX3_isLegal_207 : decode cX3_isLegal 207 = .ok (.bipush 24, 2) := by decide +kernel
theorem dX3_isLegal_209 : decode cX3_isLegal 209 = .ok (.if_icmp .lt 10, 3) := by decide +kernel
theorem dX3_isLegal_212 : decode cX3_isLegal 212 = .ok (.iload_n 1, 1) := by decide +kernel
theorem dX3_isLegal_213 : decode cX3_isLegal 213 = .ok (.sipush 144, 3) := by decide +kernel
theorem dX3_isLegal_216 : decode cX3_isLegal 216 = .ok (.if_icmp .lt 31, 3) := by decide +kernel
theorem dX3_isLegal_219 : decode cX3_isLegal 219 = .ok (.iload_n 1, 1) := by decide +kernel
theorem dX3_isLegal_220 : decode cX3_isLegal 220 = .ok (.sipush 160, 3) := by decide +kernel
theorem dX3_isLegal_223 : decode cX3_isLegal 223 = .ok (.if_icmp .lt 10, 3) := by decide +kernel
theorem dX3_isLegal_226 : decode cX3_isLegal 226 = .ok (.iload_n 1, 1) := by decide +kernel
theorem dX3_isLegal_227 : decode cX3_isLegal 227 = .ok (.sipush 176, 3) := by decide +kernel
theorem dX3_isLegal_230 : decode cX3_isLegal 230 = .ok (.if_icmp .lt 17, 3) := by decide +kernel
theorem dX3_isLegal_233 : decode cX3_isLegal 233 = .ok (.iload_n 1, 1) := by decide +kernel
theorem dX3_isLegal_234 : decode cX3_isLegal 234 = .ok (.sipush 192, 3) := by decide +kernel
theorem dX3_isLegal_237 : decode cX3_isLegal 237 = .ok (.if_icmp .lt 14, 3) := by decide +kernel
theorem dX3_isLegal_240 : decode cX3_isLegal 240 = .ok (.iload_n 1, 1) := by decide +kernel
theorem dX3_isLegal_241 : decode cX3_isLegal 241 = .ok (.sipush 240, 3) := by decide +kernel
theorem dX3_isLegal_244 : decode cX3_isLegal 244 = .ok (.if_icmp .ge 7, 3) := by decide +kernel
theorem dX3_isLegal_247 : decode cX3_isLegal 247 = .ok (.iconst 1, 1) := by decide +kernel
theorem dX3_isLegal_248 : decode cX3_isLegal 248 = .ok (.goto 4, 3) := by decide +kernel
theorem dX3_isLegal_251 : decode cX3_isLegal 251 = .ok (.iconst 0, 1) := by decide +kernel
theorem dX3_isLegal_252 : decode cX3_isLegal 252 = .ok (.ireturn, 1) := by decide +kernel
set_option maxRecDepth 20000 in
theorem ggX3_isLoadOrStore_X3_isGo : GoodIn wsX3_isLoadOrStore wsX3_isGo := goodIn_r _ [4] (by decide +kernel) (by decide +kernel)
set_option maxRecDepth 20000 in
theorem gX3_isLoadOrStore_X3_isGo : GoodIn wsX3_isLoadOrStore (va_wsS RX3 146 yX3_isGo wsX3_isGo) := goodIn_app (goodIn_of _ (by decide +kernel)) ggX3_isLoadOrStore_X3_isGo
theorem dX3_isLoadOrStore_0 : decode cX3_isLoadOrStore 0 = .ok (.iload_n 0, 1) := by decide +kernel
theorem dX3_isLoadOrStore_1 : decode cX3_isLoadOrStore 1 = .ok (.sipush 128, 3) := by decide +kernel
theorem dX3_isLoadOrStore_4 : decode cX3_isLoadOrStore 4 = .ok (.if_icmp .lt 21, 3) := by decide +kernel
theorem dX3_isLoadOrStore_7 : decode cX3_isLoadOrStore 7 = .ok (.iload_n 0, 1) := by decide +kernel
theorem dX3_isLoadOrStore_8 : decode cX3_isLoadOrStore 8 = .ok (.sipush 192, 3) := by decide +kernel
theorem dX3_isLoadOrStore_11 : decode cX3_isLoadOrStore 11 = .ok (.if_icmp .ge 14, 3) := by decide +kernel
theorem dX3_isLoadOrStore_14 : decode cX3_isLoadOrStore 14 = .ok (.iload_n 0, 1) := by decide +kernel
theorem dX3_isLoadOrStore_15 : decode cX3_isLoadOrStore 15 = .ok (.invokestatic 146, 3) := by decide +kernel
end
section
theorem dX3_isLoadOrStore_18 : decode cX3_isLoadOrStore 18 = .ok (.ifCond .ne 7, 3) := by decide +kernel
theorem dX3_isLoadOrStore_21 : decode cX3_isLoadOrStore 21 = .ok (.iconst 1, 1) := by decide +kernel
theorem dX3_isLoadOrStore_22 : decode cX3_isLoadOrStore 22 = .ok (.goto 4, 3) := by decide +kernel
theorem dX3_isLoadOrStore_25 : decode cX3_isLoadOrStore 25 = .ok (.iconst 0, 1) := by decide +kernel
theorem dX3_isLoadOrStore_26 : decode cX3_isLoadOrStore 26 = .ok (.ireturn, 1) := by decide +kernel
theorem dX3_isGo_0 : decode cX3_isGo 0 = .ok (.iload_n 0, 1) := by decide +kernel
theorem dX3_isGo_1 : decode cX3_isGo 1 = .ok (.sipush 254, 3) := by decide +kernel
theorem dX3_isGo_4 : decode cX3_isGo 4 = .ok (.iand, 1) := by decide +kernel
theorem dX3_isGo_5 : decode cX3_isGo 5 = .ok (.sipush 158, 3) := by decide +kernel
theorem dX3_isGo_8 : decode cX3_isGo 8 = .ok (.if_icmp .ne 7, 3) := by decide +kernel
theorem dX3_isGo_11 : decode cX3_isGo 11 = .ok (.iconst 1, 1) := by decide +kernel
theorem dX3_isGo_12 : decode cX3_isGo 12 = .ok (.goto 4, 3) := by decide +kernel
theorem dX3_isGo_15 : decode cX3_isGo 15 = .ok (.iconst 0, 1) := by decide +kernel
theorem dX3_isGo_16 : decode cX3_isGo 16 = .ok (.ireturn, 1) := by decide +kernel
set_option maxRecDepth 20000 in
theorem ggX3_operandZ_X3_opOf : GoodIn wsX3_operandZ wsX3_opOf := goodIn_r _ [5] (by decide +kernel) (by decide +kernel)
set_option maxRecDepth 20000 in
theorem gX3_operandZ_X3_opOf : GoodIn wsX3_operandZ (va_wsS RX3 124 yX3_opOf wsX3_opOf) := goodIn_app (goodIn_of _ (by decide +kernel)) ggX3_operandZ_X3_opOf
set_option maxRecDepth 20000 in
theorem ggX3_operandZ_X3_byteZ : GoodIn wsX3_operandZ wsX3_byteZ := goodIn_r _ [8] (by decide +kernel) (by decide +kernel)
set_option maxRecDepth 20000 in
theorem gX3_operandZ_X3_byteZ : GoodIn wsX3_operandZ (va_wsS RX3 140 yX3_byteZ wsX3_byteZ) := goodIn_app (goodIn_of _ (by decide +kernel)) ggX3_operandZ_X3_byteZ
theorem dX3_operandZ_0 : decode cX3_operandZ 0 = .ok (.iload_n 1, 1) := by decide +kernel
theorem dX3_operandZ_1 : decode cX3_operandZ 1 = .ok (.invokestatic 124, 3) := by decide +kernel
theorem dX3_operandZ_4 : decode cX3_operandZ 4 = .ok (.istore_n 2, 1) := by decide +kernel
theorem dX3_operandZ_5 : decode cX3_operandZ 5 = .ok (.iload_n 2, 1) := by decide +kernel
theorem dX3_operandZ_6 : decode cX3_operandZ 6 = .ok (.iconst 1, 1) := by decide +kernel
theorem dX3_operandZ_7 : decode cX3_operandZ 7 = .ok (.iand, 1) := by decide +kernel
theorem dX3_operandZ_8 : decode cX3_operandZ 8 = .ok (.iconst 1, 1) := by decide +kernel
theorem dX3_operandZ_9 : decode cX3_operandZ 9 = .ok (.if_icmp .ne 10, 3) := by decide +kernel
theorem dX3_operandZ_12 : decode cX3_operandZ 12 = .ok (.iload_n 2, 1) := by decide +kernel
theorem dX3_operandZ_13 : decode cX3_operandZ 13 = .ok (.sipush 224, 3) := by decide +kernel
theorem dX3_operandZ_16 : decode cX3_operandZ 16 = .ok (.if_icmp .lt 10, 3) := by decide +kernel
theorem dX3_operandZ_19 : decode cX3_operandZ 19 = .ok (.iload_n 2, 1) := by decide +kernel
theorem dX3_operandZ_20 : decode cX3_operandZ 20 = .ok (.sipush 247, 3) := by decide +kernel
theorem dX3_operandZ_23 : decode cX3_operandZ 23 = .ok (.if_icmp .ne 7, 3) := by decide +kernel
theorem dX3_operandZ_26 : decode cX3_operandZ 26 = .ok (.iconst 1, 1) := by decide +kernel
theorem dX3_operandZ_27 : decode cX3_operandZ 27 = .ok (.goto 4, 3) := by decide +kernel
theorem dX3_operandZ_30 : decode cX3_operandZ 30 = .ok (.iconst 0, 1) := by decide +kernel
theorem dX3_operandZ_31 : decode cX3_operandZ 31 = .ok (.istore_n 3, 1) := by decide +kernel
theorem dX3_operandZ_32 : decode cX3_operandZ 32 = .ok (.iload_n 3, 1) := by decide +kernel
theorem dX3_operandZ_33 : decode cX3_operandZ 33 = .ok (.ifCond .eq 11, 3) := by decide +kernel
theorem dX3_operandZ_36 : decode cX3_operandZ 36 = .ok (.iload_n 1, 1) := by decide +kernel
theorem dX3_operandZ_37 : decode cX3_operandZ 37 = .ok (.invokestatic 140, 3) := by decide +kernel
theorem dX3_operandZ_40 : decode cX3_operandZ 40 = .ok (.i2l, 1) := by decide +kernel
theorem dX3_operandZ_41 : decode cX3_operandZ 41 = .ok (.goto 12, 3) := by decide +kernel
theorem dX3_operandZ_44 : decode cX3_operandZ 44 = .ok (.aload_n 0, 1) := by decide +kernel
theorem dX3_operandZ_45 : decode cX3_operandZ 45 = .ok (.getfield 9, 3) := by decide +kernel
theorem dX3_operandZ_48 : decode cX3_operandZ 48 = .ok (.iload_n 1, 1) := by decide +kernel
theorem dX3_operandZ_49 : decode cX3_operandZ 49 = .ok (.invokestatic 140, 3) := by decide +kernel
theorem dX3_operandZ_52 : decode cX3_operandZ 52 = .ok (.laload, 1) := by decide +kernel
theorem dX3_operandZ_53 : decode cX3_operandZ 53 = .ok (.lreturn, 1) := by decide +kernel
set_option maxRecDepth 20000 in
theorem ggX3_bill_X3_leastOops : GoodIn wsX3_bill wsX3_leastOops := goodIn_r _ [8] (by decide +kernel) (by decide +kernel)
set_option maxRecDepth 20000 in
theorem gX3_bill_X3_leastOops : GoodIn wsX3_bill (va_wsS RX3 149 yX3_leastOops wsX3_leastOops) := goodIn_app (goodIn_of _ (by decide +kernel)) ggX3_bill_X3_leastOops
theorem dX3_bill_0 : decode cX3_bill 0 = .ok (.aload_n 0, 1) := by decide +kernel
theorem dX3_bill_1 : decode cX3_bill 1 = .ok (.getfield 16, 3) := by decide +kernel
theorem dX3_bill_4 : decode cX3_bill 4 = .ok (.iload_n 1, 1) := by decide +kernel
theorem dX3_bill_5 : decode cX3_bill 5 = .ok (.dup2, 1) := by decide +kernel
theorem dX3_bill_6 : decode cX3_bill 6 = .ok (.laload, 1) := by decide +kernel
theorem dX3_bill_7 : decode cX3_bill 7 = .ok (.lconst 1, 1) := by decide +kernel
theorem dX3_bill_8 : decode cX3_bill 8 = .ok (.ladd, 1) := by decide +kernel
theorem dX3_bill_9 : decode cX3_bill 9 = .ok (.lastore, 1) := by decide +kernel
theorem dX3_bill_10 : decode cX3_bill 10 = .ok (.aload_n 0, 1) := by decide +kernel
theorem dX3_bill_11 : decode cX3_bill 11 = .ok (.aload_n 0, 1) := by decide +kernel
theorem dX3_bill_12 : decode cX3_bill 12 = .ok (.getfield 16, 3) := by decide +kernel
theorem dX3_bill_15 : decode cX3_bill 15 = .ok (.iload_n 1, 1) := by decide +kernel
theorem dX3_bill_16 : decode cX3_bill 16 = .ok (.laload, 1) := by decide +kernel
theorem dX3_bill_17 : decode cX3_bill 17 = .ok (.putfield 101, 3) := by decide +kernel
theorem dX3_bill_20 : decode cX3_bill 20 = .ok (.aload_n 0, 1) := by decide +kernel
theorem dX3_bill_21 : decode cX3_bill 21 = .ok (.dup, 1) := by decide +kernel
theorem dX3_bill_22 : decode cX3_bill 22 = .ok (.getfield 87, 3) := by decide +kernel
theorem dX3_bill_25 : decode cX3_bill 25 = .ok (.iload_n 1, 1) := by decide +kernel
theorem dX3_bill_26 : decode cX3_bill 26 = .ok (.invokestatic 149, 3) := by decide +kernel
theorem dX3_bill_29 : decode cX3_bill 29 = .ok (.i2l, 1) := by decide +kernel
theorem dX3_bill_30 : decode cX3_bill 30 = .ok (.ladd, 1) := by decide +kernel
theorem dX3_bill_31 : decode cX3_bill 31 = .ok (.putfield 87, 3) := by decide +kernel
theorem dX3_bill_34 : decode cX3_bill 34 = .ok (.iload_n 2, 1) := by decide +kernel
theorem dX3_bill_35 : decode cX3_bill 35 = .ok (.ifCond .eq 13, 3) := by decide +kernel
theorem dX3_bill_38 : decode cX3_bill 38 = .ok (.aload_n 0, 1) := by decide +kernel
theorem dX3_bill_39 : decode cX3_bill 39 = .ok (.dup, 1) := by decide +kernel
theorem dX3_bill_40 : decode cX3_bill 40 = .ok (.getfield 95, 3) := by decide +kernel
theorem dX3_bill_43 : decode cX3_bill 43 = .ok (.lconst 1, 1) := by decide +kernel
theorem dX3_bill_44 : decode cX3_bill 44 = .ok (.ladd, 1) := by decide +kernel
theorem dX3_bill_45 : decode cX3_bill 45 = .ok (.putfield 95, 3) := by decide +kernel
theorem dX3_bill_48 : decode cX3_bill 48 = .ok (.return_, 1) := by decide +kernel
theorem dX3_leastOops_0 : decode cX3_leastOops 0 = .ok (.iload_n 0, 1) := by decide +kernel
theorem dX3_leastOops_1 : decode cX3_leastOops 1 = .ok (.lookupswitch 109 #[(0, 99), (24, 101), (25, 101), (26, 101), (27, 101), (28, 104), (29, 104), (30, 104), (31, 104), (158, 107), (159, 107)], 99) := by decide +kernel
theorem dX3_leastOops_100 : decode cX3_leastOops 100 = .ok (.iconst 5, 1) := by decide +kernel
theorem dX3_leastOops_101 : decode cX3_leastOops 101 = .ok (.ireturn, 1) := by decide +kernel
theorem dX3_leastOops_102 : decode cX3_leastOops 102 = .ok (.bipush 10, 2) := by decide +kernel
theorem dX3_leastOops_104 : decode cX3_leastOops 104 = .ok (.ireturn, 1) := by decide +kernel
theorem dX3_leastOops_105 : decode cX3_leastOops 105 = .ok (.bipush 60, 2) := by decide +kernel
theorem dX3_leastOops_107 : decode cX3_leastOops 107 = .ok (.ireturn, 1) := by decide +kernel
theorem dX3_leastOops_108 : decode cX3_leastOops 108 = .ok (.iconst 3, 1) := by decide +kernel
theorem dX3_leastOops_109 : decode cX3_leastOops 109 = .ok (.ireturn, 1) := by decide +kernel
theorem dX3_leastOops_110 : decode cX3_leastOops 110 = .ok (.iconst 1, 1) := by decide +kernel
theorem dX3_leastOops_111 : decode cX3_leastOops 111 = .ok (.ireturn, 1) := by decide +kernel
set_option maxRecDepth 20000 in
theorem ggX3_perform_X3_opOf : GoodIn wsX3_perform wsX3_opOf := goodIn_r _ [6] (by decide +kernel) (by decide +kernel)
set_option maxRecDepth 20000 in
theorem gX3_perform_X3_opOf : GoodIn wsX3_perform (va_wsS RX3 124 yX3_opOf wsX3_opOf) := goodIn_app (goodIn_of _ (by decide +kernel)) ggX3_perform_X3_opOf
set_option maxRecDepth 20000 in
theorem ggX3_perform_X3_trap : GoodIn wsX3_perform wsX3_trap := goodIn_r _ [10, 1, 11, 12, 13, 14, 15, 5, 16, 185, 186, 187, 188, 189, 190, 191, 192, 193, 194, 195, 196] (by decide +kernel) (by decide +kernel)
set_option maxRecDepth 20000 in
theorem gX3_perform_X3_trap : GoodIn wsX3_perform (wsV RX3 154 RX3 yX3_trap wsX3_trap) := goodIn_app (goodIn_of _ (by decide +kernel)) ggX3_perform_X3_trap
set_option maxRecDepth 20000 in
theorem ggX3_perform_X3_productOrQuotient : GoodIn wsX3_perform wsX3_productOrQuotient := goodIn_r _ [20, 21, 22, 23, 24, 25, 26, 27, 28, 29, 30, 31, 32, 5, 33, 34, 35, 36, 37, 38, 39, 40, 41, 42, 43, 44, 45, 46, 47, 48, 49, 50, 51, 185, 186, 187, 188, 189, 190, 191, 192, 193, 194, 195, 196] (by decide +kernel) (by decide +kernel)
set_option maxRecDepth 20000 in
theorem gX3_perform_X3_productOrQuotient : GoodIn wsX3_perform (wsV RX3 158 RX3 yX3_productOrQuotient wsX3_productOrQuotient) := goodIn_app (goodIn_of _ (by decide +kernel)) ggX3_perform_X3_productOrQuotient
set_option maxRecDepth 20000 in
theorem ggX3_perform_X3_writeX : GoodIn wsX3_perform wsX3_writeX := goodIn_r _ [55, 56, 57, 13, 58, 59, 5, 60, 185, 186, 187, 188, 189, 190, 191, 192, 193, 194, 195, 196] (by decide +kernel) (by decide +kernel)
set_option maxRecDepth 20000 in
theorem gX3_perform_X3_writeX : GoodIn wsX3_perform (wsV RX3 162 RX3 yX3_writeX wsX3_writeX) := goodIn_app (goodIn_of _ (by decide +kernel)) ggX3_perform_X3_writeX
set_option maxRecDepth 20000 in
theorem ggX3_perform_X3_sumOrDifference : GoodIn wsX3_perform wsX3_sumOrDifference := goodIn_r _ [64, 65, 66, 67, 5, 68, 21, 30, 31, 32, 33, 22, 69, 70, 71, 72, 185, 186, 187, 188, 189, 190, 191, 192, 193, 194, 195, 196] (by decide +kernel) (by decide +kernel)
set_option maxRecDepth 20000 in
theorem gX3_perform_X3_sumOrDifference : GoodIn wsX3_perform (wsV RX3 165 RX3 yX3_sumOrDifference wsX3_sumOrDifference) := goodIn_app (goodIn_of _ (by decide +kernel)) ggX3_perform_X3_sumOrDifference
set_option maxRecDepth 20000 in
theorem ggX3_perform_X3_comparedOrShifted : GoodIn wsX3_perform wsX3_comparedOrShifted := goodIn_r _ [76, 40, 3, 4, 5, 6, 49, 24, 50, 51, 77, 78, 79, 69, 70, 71, 72, 21, 30, 31, 32, 33, 22, 80, 81, 82, 83, 84, 85, 86, 87, 88, 89, 90, 91, 92, 93, 185, 186, 187, 188, 189, 190, 191, 192, 193, 194, 195, 196] (by decide +kernel) (by decide +kernel)
set_option maxRecDepth 20000 in
theorem gX3_perform_X3_comparedOrShifted : GoodIn wsX3_perform (wsV RX3 168 RX3 yX3_comparedOrShifted wsX3_comparedOrShifted) := goodIn_app (goodIn_of _ (by decide +kernel)) ggX3_perform_X3_comparedOrShifted
set_option maxRecDepth 20000 in
theorem ggX3_perform_X3_branch : GoodIn wsX3_perform wsX3_branch := goodIn_r _ [97, 13, 98, 99, 1, 3, 4, 5, 6, 58, 59, 60, 100, 101, 102, 103, 104, 105, 2, 106, 107, 108, 109, 110, 185, 186, 187, 188, 189, 190, 191, 192, 193, 194, 195, 196] (by decide +kernel) (by decide +kernel)
set_option maxRecDepth 20000 in
theorem gX3_perform_X3_branch : GoodIn wsX3_perform (wsV RX3 171 RX3 yX3_branch wsX3_branch) := goodIn_app (goodIn_of _ (by decide +kernel)) ggX3_perform_X3_branch
set_option maxRecDepth 20000 in
theorem ggX3_perform_X3_choose : GoodIn wsX3_perform wsX3_choose := goodIn_r _ [114, 3, 4, 5, 6, 100, 101, 102, 52, 53, 54, 55, 56, 57, 13, 58, 59, 60, 185, 186, 187, 188, 189, 190, 191, 192, 193, 194, 195, 196] (by decide +kernel) (by decide +kernel)
set_option maxRecDepth 20000 in
theorem gX3_perform_X3_choose : GoodIn wsX3_perform (wsV RX3 174 RX3 yX3_choose wsX3_choose) := goodIn_app (goodIn_of _ (by decide +kernel)) ggX3_perform_X3_choose
set_option maxRecDepth 20000 in
theorem ggX3_perform_X3_loadOrGo : GoodIn wsX3_perform wsX3_loadOrGo := goodIn_r _ [118, 2, 119, 1, 120, 3, 4, 5, 6, 121, 122, 123, 52, 53, 54, 55, 56, 57, 13, 58, 59, 60, 124, 125, 126, 127, 128, 129, 130, 131, 132, 133, 134, 135, 136, 137, 138, 139, 140, 141, 142, 143, 144, 145, 24, 146, 185, 186, 187, 188, 189, 190, 191, 192, 193, 194, 195, 196, 197] (by decide +kernel) (by decide +kernel)
set_option maxRecDepth 20000 in
theorem gX3_perform_X3_loadOrGo : GoodIn wsX3_perform (wsV RX3 177 RX3 yX3_loadOrGo wsX3_loadOrGo) := goodIn_app (goodIn_of _ (by decide +kernel)) ggX3_perform_X3_loadOrGo
set_option maxRecDepth 20000 in
theorem ggX3_perform_X3_storeX : GoodIn wsX3_perform wsX3_storeX := goodIn_r _ [150, 13, 120, 21, 3, 4, 5, 6, 58, 59, 60, 151, 125, 152, 153, 128, 138, 132, 133, 134, 129, 130, 131, 135, 136, 137, 142, 143, 144, 139, 140, 141, 145, 24, 146, 30, 31, 32, 33, 22, 185, 186, 187, 188, 189, 190, 191, 192, 193, 194, 195, 196, 197] (by decide +kernel) (by decide +kernel)
set_option maxRecDepth 20000 in
theorem gX3_perform_X3_storeX : GoodIn wsX3_perform (wsV RX3 180 RX3 yX3_storeX wsX3_storeX) := goodIn_app (goodIn_of _ (by decide +kernel)) ggX3_perform_X3_storeX
set_option maxRecDepth 20000 in
theorem ggX3_perform_X2_bitwise : GoodIn wsX3_perform wsX2_bitwise := goodIn_r _ [155, 156] (by decide +kernel) (by decide +kernel)
set_option maxRecDepth 20000 in
theorem gX3_perform_X2_bitwise_n183 : GoodIn wsX3_perform (wsX2_bitwise) := ggX3_perform_X2_bitwise
set_option maxRecDepth 20000 in
theorem ggX3_perform_X3_bytewise : GoodIn wsX3_perform wsX3_bytewise := goodIn_r _ [160, 22, 40, 161, 24, 162, 156, 163, 49, 50, 51, 164, 165, 166, 167, 168, 169, 170, 171, 172, 173, 174, 185, 186, 187, 188, 189, 190, 191, 192, 193, 194, 195, 196] (by decide +kernel) (by decide +kernel)
set_option maxRecDepth 20000 in
theorem gX3_perform_X3_bytewise : GoodIn wsX3_perform (wsV RX3 188 RX3 yX3_bytewise wsX3_bytewise) := goodIn_app (goodIn_of _ (by decide +kernel)) ggX3_perform_X3_bytewise
set_option maxRecDepth 20000 in
theorem ggX3_perform_X3_withWyde : GoodIn wsX3_perform wsX3_withWyde := goodIn_r _ [178, 13, 40, 3, 4, 5, 6, 58, 59, 60, 107, 108, 109, 110, 185, 186, 187, 188, 189, 190, 191, 192, 193, 194, 195, 196] (by decide +kernel) (by decide +kernel)
set_option maxRecDepth 20000 in
theorem gX3_perform_X3_withWyde : GoodIn wsX3_perform (wsV RX3 191 RX3 yX3_withWyde wsX3_withWyde) := goodIn_app (goodIn_of _ (by decide +kernel)) ggX3_perform_X3_withWyde
set_option maxRecDepth 20000 in
theorem ggX3_perform_X3_performRest : GoodIn wsX3_perform wsX3_performRest := goodIn_r _ [182, 183, 2, 1, 184, 22, 3, 4, 5, 6, 103, 104, 105, 106, 107, 108, 109, 110, 52, 53, 54, 55, 56, 57, 13, 58, 59, 60, 14, 15, 16, 185, 186, 187, 188, 189, 190, 191, 192, 193, 194, 195, 196] (by decide +kernel) (by decide +kernel)
set_option maxRecDepth 20000 in
theorem gX3_perform_X3_performRest : GoodIn wsX3_perform (wsV RX3 194 RX3 yX3_performRest wsX3_performRest) := goodIn_app (goodIn_of _ (by decide +kernel)) ggX3_perform_X3_performRest
theorem dX3_perform_0 : decode cX3_perform 0 = .ok (.iload_n 1, 1) := by decide +kernel
theorem dX3_perform_1 : decode cX3_perform 1 = .ok (.invokestatic 124, 3) := by decide +kernel
theorem dX3_perform_4 : decode cX3_perform 4 = .ok (.istore 6, 2) := by decide +kernel
theorem dX3_perform_6 : decode cX3_perform 6 = .ok (.aload_n 0, 1) := by decide +kernel
theorem dX3_perform_7 : decode cX3_perform 7 = .ok (.getfield 73, 3) := by decide +kernel
theorem dX3_perform_10 : decode cX3_perform 10 = .ok (.lstore 7, 2) := by decide +kernel
theorem dX3_perform_12 : decode cX3_perform 12 = .ok (.aload_n 0, 1) := by decide +kernel
theorem dX3_perform_13 : decode cX3_perform 13 = .ok (.lload 7, 2) := by decide +kernel
theorem dX3_perform_15 : decode cX3_perform 15 = .ok (.ldc2_w 152, 3) := by decide +kernel
theorem dX3_perform_18 : decode cX3_perform 18 = .ok (.ladd, 1) := by decide +kernel
theorem dX3_perform_19 : decode cX3_perform 19 = .ok (.putfield 73, 3) := by decide +kernel
theorem dX3_perform_22 : decode cX3_perform 22 = .ok (.iload 6, 2) := by decide +kernel
theorem dX3_perform_24 : decode cX3_perform 24 = .ok (.iconst 4, 1) := by decide +kernel
theorem dX3_perform_25 : decode cX3_perform 25 = .ok (.ishr, 1) := by decide +kernel
theorem dX3_perform_26 : decode cX3_perform 26 = .ok (.tableswitch 227 0 14 #[74, 84, 101, 118, 134, 134, 144, 144, 155, 155, 169, 169, 181, 197, 214], 74) := by decide +kernel
theorem dX3_perform_100 : decode cX3_perform 100 = .ok (.aload_n 0, 1) := by decide +kernel
theorem dX3_perform_101 : decode cX3_perform 101 = .ok (.iload_n 1, 1) := by decide +kernel
theorem dX3_perform_102 : decode cX3_perform 102 = .ok (.lload 7, 2) := by decide +kernel
theorem dX3_perform_104 : decode cX3_perform 104 = .ok (.invokevirtual 154, 3) := by decide +kernel
theorem dX3_perform_107 : decode cX3_perform 107 = .ok (.goto 155, 3) := by decide +kernel
theorem dX3_perform_110 : decode cX3_perform 110 = .ok (.aload_n 0, 1) := by decide +kernel
theorem dX3_perform_111 : decode cX3_perform 111 = .ok (.iload_n 1, 1) := by decide +kernel
theorem dX3_perform_112 : decode cX3_perform 112 = .ok (.aload_n 0, 1) := by decide +kernel
theorem dX3_perform_113 : decode cX3_perform 113 = .ok (.iload 6, 2) := by decide +kernel
theorem dX3_perform_115 : decode cX3_perform 115 = .ok (.lload_n 2, 1) := by decide +kernel
theorem dX3_perform_116 : decode cX3_perform 116 = .ok (.lload 4, 2) := by decide +kernel
theorem dX3_perform_118 : decode cX3_perform 118 = .ok (.invokevirtual 158, 3) := by decide +kernel
theorem dX3_perform_121 : decode cX3_perform 121 = .ok (.invokevirtual 162, 3) := by decide +kernel
theorem dX3_perform_124 : decode cX3_perform 124 = .ok (.goto 138, 3) := by decide +kernel
theorem dX3_perform_127 : decode cX3_perform 127 = .ok (.aload_n 0, 1) := by decide +kernel
theorem dX3_perform_128 : decode cX3_perform 128 = .ok (.iload_n 1, 1) := by decide +kernel
theorem dX3_perform_129 : decode cX3_perform 129 = .ok (.aload_n 0, 1) := by decide +kernel
theorem dX3_perform_130 : decode cX3_perform 130 = .ok (.iload 6, 2) := by decide +kernel
theorem dX3_perform_132 : decode cX3_perform 132 = .ok (.lload_n 2, 1) := by decide +kernel
theorem dX3_perform_133 : decode cX3_perform 133 = .ok (.lload 4, 2) := by decide +kernel
theorem dX3_perform_135 : decode cX3_perform 135 = .ok (.invokevirtual 165, 3) := by decide +kernel
theorem dX3_perform_138 : decode cX3_perform 138 = .ok (.invokevirtual 162, 3) := by decide +kernel
theorem dX3_perform_141 : decode cX3_perform 141 = .ok (.goto 121, 3) := by decide +kernel
theorem dX3_perform_144 : decode cX3_perform 144 = .ok (.aload_n 0, 1) := by decide +kernel
theorem dX3_perform_145 : decode cX3_perform 145 = .ok (.iload_n 1, 1) := by decide +kernel
theorem dX3_perform_146 : decode cX3_perform 146 = .ok (.aload_n 0, 1) := by decide +kernel
theorem dX3_perform_147 : decode cX3_perform 147 = .ok (.iload_n 1, 1) := by decide +kernel
theorem dX3_perform_148 : decode cX3_perform 148 = .ok (.lload_n 2, 1) := by decide +kernel
theorem dX3_perform_149 : decode cX3_perform 149 = .ok (.lload 4, 2) := by decide +kernel
theorem dX3_perform_151 : decode cX3_perform 151 = .ok (.invokevirtual 168, 3) := by decide +kernel
theorem dX3_perform_154 : decode cX3_perform 154 = .ok (.invokevirtual 162, 3) := by decide +kernel
theorem dX3_perform_157 : decode cX3_perform 157 = .ok (.goto 105, 3) := by decide +kernel
theorem dX3_perform_160 : decode cX3_perform 160 = .ok (.aload_n 0, 1) := by decide +kernel
theorem dX3_perform_161 : decode cX3_perform 161 = .ok (.iload_n 1, 1) := by decide +kernel
theorem dX3_perform_162 : decode cX3_perform 162 = .ok (.lload 7, 2) := by decide +kernel
theorem dX3_perform_164 : decode cX3_perform 164 = .ok (.invokevirtual 171, 3) := by decide +kernel
theorem dX3_perform_167 : decode cX3_perform 167 = .ok (.goto 95, 3) := by decide +kernel
theorem dX3_perform_170 : decode cX3_perform 170 = .ok (.aload_n 0, 1) := by decide +kernel
theorem dX3_perform_171 : decode cX3_perform 171 = .ok (.iload_n 1, 1) := by decide +kernel
theorem dX3_perform_172 : decode cX3_perform 172 = .ok (.lload_n 2, 1) := by decide +kernel
theorem dX3_perform_173 : decode cX3_perform 173 = .ok (.lload 4, 2) := by decide +kernel
theorem dX3_perform_175 : decode cX3_perform 175 = .ok (.invokevirtual 174, 3) := by decide +kernel
theorem dX3_perform_178 : decode cX3_perform 178 = .ok (.goto 84, 3) := by decide +kernel
theorem dX3_perform_181 : decode cX3_perform 181 = .ok (.aload_n 0, 1) := by decide +kernel
theorem dX3_perform_182 : decode cX3_perform 182 = .ok (.iload_n 1, 1) := by decide +kernel
theorem dX3_perform_183 : decode cX3_perform 183 = .ok (.lload_n 2, 1) := by decide +kernel
theorem dX3_perform_184 : decode cX3_perform 184 = .ok (.lload 4, 2) := by decide +kernel
theorem dX3_perform_186 : decode cX3_perform 186 = .ok (.ladd, 1) := by decide +kernel
theorem dX3_perform_187 : decode cX3_perform 187 = .ok (.lload 7, 2) := by decide +kernel
theorem dX3_perform_189 : decode cX3_perform 189 = .ok (.invokevirtual 177, 3) := by decide +kernel
theorem dX3_perform_192 : decode cX3_perform 192 = .ok (.goto 70, 3) := by decide +kernel
theorem dX3_perform_195 : decode cX3_perform 195 = .ok (.aload_n 0, 1) := by decide +kernel
theorem dX3_perform_196 : decode cX3_perform 196 = .ok (.iload_n 1, 1) := by decide +kernel
theorem dX3_perform_197 : decode cX3_perform 197 = .ok (.lload_n 2, 1) := by decide +kernel
theorem dX3_perform_198 : decode cX3_perform 198 = .ok (.lload 4, 2) := by decide +kernel
theorem dX3_perform_200 : decode cX3_perform 200 = .ok (.ladd, 1) := by decide +kernel
theorem dX3_perform_201 : decode cX3_perform 201 = .ok (.invokevirtual 180, 3) := by decide +kernel
theorem dX3_perform_204 : decode cX3_perform 204 = .ok (.goto 58, 3) := by decide +kernel
theorem dX3_perform_207 : decode cX3_perform 207 = .ok (.aload_n 0, 1) := by decide +kernel
theorem dX3_perform_208 : decode cX3_perform 208 = .ok (.iload_n 1, 1) := by decide +kernel
theorem dX3_perform_209 : decode cX3_perform 209 = .ok (.iload 6, 2) := by decide +kernel
theorem dX3_perform_211 : decode cX3_perform 211 = .ok (.lload_n 2, 1) := by decide +kernel
theorem dX3_perform_212 : decode cX3_perform 212 = .ok (.lload 4, 2) := by decide +kernel
theorem dX3_perform_214 : decode cX3_perform 214 = .ok (.invokestatic 183, 3) := by decide +kernel
theorem dX3_perform_217 : decode cX3_perform 217 = .ok (.invokevirtual 162, 3) := by decide +kernel
theorem dX3_perform_220 : decode cX3_perform 220 = .ok (.goto 42, 3) := by decide +kernel
theorem dX3_perform_223 : decode cX3_perform 223 = .ok (.aload_n 0, 1) := by decide +kernel
theorem dX3_perform_224 : decode cX3_perform 224 = .ok (.iload_n 1, 1) := by decide +kernel
theorem dX3_perform_225 : decode cX3_perform 225 = .ok (.aload_n 0, 1) := by decide +kernel
theorem dX3_perform_226 : decode cX3_perform 226 = .ok (.iload 6, 2) := by decide +kernel
theorem dX3_perform_228 : decode cX3_perform 228 = .ok (.lload_n 2, 1) := by decide +kernel
theorem dX3_perform_229 : decode cX3_perform 229 = .ok (.lload 4, 2) := by decide +kernel
theorem dX3_perform_231 : decode cX3_perform 231 = .ok (.invokevirtual 188, 3) := by decide +kernel
theorem dX3_perform_234 : decode cX3_perform 234 = .ok (.invokevirtual 162, 3) := by decide +kernel
theorem dX3_perform_237 : decode cX3_perform 237 = .ok (.goto 25, 3) := by decide +kernel
theorem dX3_perform_240 : decode cX3_perform 240 = .ok (.aload_n 0, 1) := by decide +kernel
theorem dX3_perform_241 : decode cX3_perform 241 = .ok (.iload_n 1, 1) := by decide +kernel
theorem dX3_perform_242 : decode cX3_perform 242 = .ok (.aload_n 0, 1) := by decide +kernel
theorem dX3_perform_243 : decode cX3_perform 243 = .ok (.iload_n 1, 1) := by decide +kernel
theorem dX3_perform_244 : decode cX3_perform 244 = .ok (.invokevirtual 191, 3) := by decide +kernel
theorem dX3_perform_247 : decode cX3_perform 247 = .ok (.invokevirtual 162, 3) := by decide +kernel
theorem dX3_perform_250 : decode cX3_perform 250 = .ok (.goto 12, 3) := by decide +kernel
theorem dX3_perform_253 : decode cX3_perform 253 = .ok (.aload_n 0, 1) := by decide +kernel
theorem dX3_perform_254 : decode cX3_perform 254 = .ok (.iload_n 1, 1) := by decide +kernel
theorem dX3_perform_255 : decode cX3_perform 255 = .ok (.lload 4, 2) := by decide +kernel
theorem dX3_perform_257 : decode cX3_perform 257 = .ok (.lload 7, 2) := by decide +kernel
theorem dX3_perform_259 : decode cX3_perform 259 = .ok (.invokevirtual 194, 3) := by decide +kernel
theorem dX3_perform_262 : decode cX3_perform 262 = .ok (.return_, 1) := by decide +kernel
set_option maxRecDepth 20000 in
theorem ggX3_writeX_X3_byteX : GoodIn wsX3_writeX wsX3_byteX := goodIn_r _ [7] (by decide +kernel) (by decide +kernel)
set_option maxRecDepth 20000 in
theorem gX3_writeX_X3_byteX : GoodIn wsX3_writeX (va_wsS RX3 143 yX3_byteX wsX3_byteX) := goodIn_app (goodIn_of _ (by decide +kernel)) ggX3_writeX_X3_byteX
theorem dX3_writeX_0 : decode cX3_writeX 0 = .ok (.iload_n 1, 1) := by decide +kernel
theorem dX3_writeX_1 : decode cX3_writeX 1 = .ok (.invokestatic 143, 3) := by decide +kernel
theorem dX3_writeX_4 : decode cX3_writeX 4 = .ok (.istore 4, 2) := by decide +kernel
theorem dX3_writeX_6 : decode cX3_writeX 6 = .ok (.aload_n 0, 1) := by decide +kernel
theorem dX3_writeX_7 : decode cX3_writeX 7 = .ok (.ldc2_w 197, 3) := by decide +kernel
theorem dX3_writeX_10 : decode cX3_writeX 10 = .ok (.aload_n 0, 1) := by decide +kernel
theorem dX3_writeX_11 : decode cX3_writeX 11 = .ok (.getfield 98, 3) := by decide +kernel
theorem dX3_writeX_14 : decode cX3_writeX 14 = .ok (.lmul, 1) := by decide +kernel
theorem dX3_writeX_15 : decode cX3_writeX 15 = .ok (.aload_n 0, 1) := by decide +kernel
theorem dX3_writeX_16 : decode cX3_writeX 16 = .ok (.getfield 9, 3) := by decide +kernel
theorem dX3_writeX_19 : decode cX3_writeX 19 = .ok (.iload 4, 2) := by decide +kernel
theorem dX3_writeX_21 : decode cX3_writeX 21 = .ok (.laload, 1) := by decide +kernel
theorem dX3_writeX_22 : decode cX3_writeX 22 = .ok (.ladd, 1) := by decide +kernel
theorem dX3_writeX_23 : decode cX3_writeX 23 = .ok (.putfield 98, 3) := by decide +kernel
theorem dX3_writeX_26 : decode cX3_writeX 26 = .ok (.aload_n 0, 1) := by decide +kernel
theorem dX3_writeX_27 : decode cX3_writeX 27 = .ok (.getfield 9, 3) := by decide +kernel
theorem dX3_writeX_30 : decode cX3_writeX 30 = .ok (.iload 4, 2) := by decide +kernel
theorem dX3_writeX_32 : decode cX3_writeX 32 = .ok (.lload_n 2, 1) := by decide +kernel
theorem dX3_writeX_33 : decode cX3_writeX 33 = .ok (.lastore, 1) := by decide +kernel
theorem dX3_writeX_34 : decode cX3_writeX 34 = .ok (.return_, 1) := by decide +kernel
set_option maxRecDepth 20000 in
theorem ggX3_trap_X3_byteZ : GoodIn wsX3_trap wsX3_byteZ := goodIn_r _ [8] (by decide +kernel) (by decide +kernel)
set_option maxRecDepth 20000 in
theorem gX3_trap_X3_byteZ : GoodIn wsX3_trap (va_wsS RX3 140 yX3_byteZ wsX3_byteZ) := goodIn_app (goodIn_of _ (by decide +kernel)) ggX3_trap_X3_byteZ
theorem dX3_trap_0 : decode cX3_trap 0 = .ok (.iload_n 1, 1) := by decide +kernel
theorem dX3_trap_1 : decode cX3_trap 1 = .ok (.ifCond .ne 11, 3) := by decide +kernel
theorem dX3_trap_4 : decode cX3_trap 4 = .ok (.aload_n 0, 1) := by decide +kernel
theorem dX3_trap_5 : decode cX3_trap 5 = .ok (.lload_n 2, 1) := by decide +kernel
theorem dX3_trap_6 : decode cX3_trap 6 = .ok (.putfield 73, 3) := by decide +kernel
theorem dX3_trap_9 : decode cX3_trap 9 = .ok (.goto 43, 3) := by decide +kernel
theorem dX3_trap_12 : decode cX3_trap 12 = .ok (.aload_n 0, 1) := by decide +kernel
theorem dX3_trap_13 : decode cX3_trap 13 = .ok (.getfield 90, 3) := by decide +kernel
theorem dX3_trap_16 : decode cX3_trap 16 = .ok (.sipush 500, 3) := by decide +kernel
theorem dX3_trap_19 : decode cX3_trap 19 = .ok (.if_icmp .ge 33, 3) := by decide +kernel
theorem dX3_trap_22 : decode cX3_trap 22 = .ok (.aload_n 0, 1) := by decide +kernel
theorem dX3_trap_23 : decode cX3_trap 23 = .ok (.getfield 19, 3) := by decide +kernel
theorem dX3_trap_26 : decode cX3_trap 26 = .ok (.aload_n 0, 1) := by decide +kernel
theorem dX3_trap_27 : decode cX3_trap 27 = .ok (.getfield 90, 3) := by decide +kernel
theorem dX3_trap_30 : decode cX3_trap 30 = .ok (.aload_n 0, 1) := by decide +kernel
theorem dX3_trap_31 : decode cX3_trap 31 = .ok (.getfield 9, 3) := by decide +kernel
theorem dX3_trap_34 : decode cX3_trap 34 = .ok (.iload_n 1, 1) := by decide +kernel
theorem dX3_trap_35 : decode cX3_trap 35 = .ok (.invokestatic 140, 3) := by decide +kernel
theorem dX3_trap_38 : decode cX3_trap 38 = .ok (.laload, 1) := by decide +kernel
theorem dX3_trap_39 : decode cX3_trap 39 = .ok (.l2i, 1) := by decide +kernel
theorem dX3_trap_40 : decode cX3_trap 40 = .ok (.i2b, 1) := by decide +kernel
theorem dX3_trap_41 : decode cX3_trap 41 = .ok (.bastore, 1) := by decide +kernel
theorem dX3_trap_42 : decode cX3_trap 42 = .ok (.aload_n 0, 1) := by decide +kernel
theorem dX3_trap_43 : decode cX3_trap 43 = .ok (.dup, 1) := by decide +kernel
theorem dX3_trap_44 : decode cX3_trap 44 = .ok (.getfield 90, 3) := by decide +kernel
theorem dX3_trap_47 : decode cX3_trap 47 = .ok (.iconst 1, 1) := by decide +kernel
theorem dX3_trap_48 : decode cX3_trap 48 = .ok (.iadd, 1) := by decide +kernel
theorem dX3_trap_49 : decode cX3_trap 49 = .ok (.putfield 90, 3) := by decide +kernel
theorem dX3_trap_52 : decode cX3_trap 52 = .ok (.return_, 1) := by decide +kernel
theorem dX3_raise_0 : decode cX3_raise 0 = .ok (.iload_n 3, 1) := by decide +kernel
theorem dX3_raise_1 : decode cX3_raise 1 = .ok (.ifCond .eq 14, 3) := by decide +kernel
theorem dX3_raise_4 : decode cX3_raise 4 = .ok (.aload_n 0, 1) := by decide +kernel
theorem dX3_raise_5 : decode cX3_raise 5 = .ok (.getfield 13, 3) := by decide +kernel
theorem dX3_raise_8 : decode cX3_raise 8 = .ok (.bipush 7, 2) := by decide +kernel
theorem dX3_raise_10 : decode cX3_raise 10 = .ok (.dup2, 1) := by decide +kernel
theorem dX3_raise_11 : decode cX3_raise 11 = .ok (.laload, 1) := by decide +kernel
theorem dX3_raise_12 : decode cX3_raise 12 = .ok (.lload_n 1, 1) := by decide +kernel
theorem dX3_raise_13 : decode cX3_raise 13 = .ok (.lor, 1) := by decide +kernel
theorem dX3_raise_14 : decode cX3_raise 14 = .ok (.lastore, 1) := by decide +kernel
theorem dX3_raise_15 : decode cX3_raise 15 = .ok (.return_, 1) := by decide +kernel
set_option maxRecDepth 20000 in
theorem ggX3_productOrQuotient_X2_highOfSignedProduct : GoodIn wsX3_productOrQuotient wsX2_highOfSignedProduct := goodIn_r _ [5, 6, 7, 4, 8, 9] (by decide +kernel) (by decide +kernel)
set_option maxRecDepth 20000 in
theorem gX3_productOrQuotient_X2_highOfSignedProduct_n201 : GoodIn wsX3_productOrQuotient (wsX2_highOfSignedProduct) := ggX3_productOrQuotient_X2_highOfSignedProduct
set_option maxRecDepth 20000 in
theorem ggX3_productOrQuotient_X3_raise : GoodIn wsX3_productOrQuotient wsX3_raise := goodIn_r _ [14, 2, 33, 34, 35, 36, 37, 38, 39, 40, 41, 42, 43, 44] (by decide +kernel) (by decide +kernel)
set_option maxRecDepth 20000 in
theorem gX3_productOrQuotient_X3_raise : GoodIn wsX3_productOrQuotient (wsV RX3 205 RX3 yX3_raise wsX3_raise) := goodIn_app (goodIn_of _ (by decide +kernel)) ggX3_productOrQuotient_X3_raise
set_option maxRecDepth 20000 in
theorem ggX3_productOrQuotient_X2_highOfProduct : GoodIn wsX3_productOrQuotient wsX2_highOfProduct := goodIn_r _ [8, 9] (by decide +kernel) (by decide +kernel)
set_option maxRecDepth 20000 in
theorem gX3_productOrQuotient_X2_highOfProduct_n209 : GoodIn wsX3_productOrQuotient (wsX2_highOfProduct) := ggX3_productOrQuotient_X2_highOfProduct
set_option maxRecDepth 20000 in
theorem ggX3_productOrQuotient_X3_quotient : GoodIn wsX3_productOrQuotient wsX3_quotient := goodIn_r _ [18, 19, 2, 1, 20, 21, 10, 11, 12, 13, 14, 22, 23, 24, 25, 33, 34, 35, 36, 37, 38, 39, 40, 41, 42, 43, 44] (by decide +kernel) (by decide +kernel)
set_option maxRecDepth 20000 in
theorem gX3_productOrQuotient_X3_quotient : GoodIn wsX3_productOrQuotient (wsV RX3 212 RX3 yX3_quotient wsX3_quotient) := goodIn_app (goodIn_of _ (by decide +kernel)) ggX3_productOrQuotient_X3_quotient
set_option maxRecDepth 20000 in
theorem ggX3_productOrQuotient_X3_longQuotient : GoodIn wsX3_productOrQuotient wsX3_longQuotient := goodIn_r _ [29, 2, 30, 4, 31, 32, 33, 34, 35, 36, 37, 38, 39, 40, 41, 42, 43, 44] (by decide +kernel) (by decide +kernel)
set_option maxRecDepth 20000 in
theorem gX3_productOrQuotient_X3_longQuotient : GoodIn wsX3_productOrQuotient (wsV RX3 215 RX3 yX3_longQuotient wsX3_longQuotient) := goodIn_app (goodIn_of _ (by decide +kernel)) ggX3_productOrQuotient_X3_longQuotient
theorem dX3_productOrQuotient_0 : decode cX3_productOrQuotient 0 = .ok (.iload_n 1, 1) := by decide +kernel
theorem dX3_productOrQuotient_1 : decode cX3_productOrQuotient 1 = .ok (.sipush 254, 3) := by decide +kernel
theorem dX3_productOrQuotient_4 : decode cX3_productOrQuotient 4 = .ok (.iand, 1) := by decide +kernel
theorem dX3_productOrQuotient_5 : decode cX3_productOrQuotient 5 = .ok (.tableswitch 94 24 28 #[35, 94, 69, 94, 86], 35) := by decide +kernel
theorem dX3_productOrQuotient_40 : decode cX3_productOrQuotient 40 = .ok (.aload_n 0, 1) := by decide +kernel
theorem dX3_productOrQuotient_41 : decode cX3_productOrQuotient 41 = .ok (.ldc2_w 199, 3) := by decide +kernel
theorem dX3_productOrQuotient_44 : decode cX3_productOrQuotient 44 = .ok (.lload_n 2, 1) := by decide +kernel
theorem dX3_productOrQuotient_45 : decode cX3_productOrQuotient 45 = .ok (.lload 4, 2) := by decide +kernel
theorem dX3_productOrQuotient_47 : decode cX3_productOrQuotient 47 = .ok (.invokestatic 201, 3) := by decide +kernel
theorem dX3_productOrQuotient_50 : decode cX3_productOrQuotient 50 = .ok (.lload_n 2, 1) := by decide +kernel
theorem dX3_productOrQuotient_51 : decode cX3_productOrQuotient 51 = .ok (.lload 4, 2) := by decide +kernel
theorem dX3_productOrQuotient_53 : decode cX3_productOrQuotient 53 = .ok (.lmul, 1) := by decide +kernel
theorem dX3_productOrQuotient_54 : decode cX3_productOrQuotient 54 = .ok (.bipush 63, 2) := by decide +kernel
theorem dX3_productOrQuotient_56 : decode cX3_productOrQuotient 56 = .ok (.lshr, 1) := by decide +kernel
theorem dX3_productOrQuotient_57 : decode cX3_productOrQuotient 57 = .ok (.lcmp, 1) := by decide +kernel
theorem dX3_productOrQuotient_58 : decode cX3_productOrQuotient 58 = .ok (.ifCond .eq 7, 3) := by decide +kernel
theorem dX3_productOrQuotient_61 : decode cX3_productOrQuotient 61 = .ok (.iconst 1, 1) := by decide +kernel
theorem dX3_productOrQuotient_62 : decode cX3_productOrQuotient 62 = .ok (.goto 4, 3) := by decide +kernel
theorem dX3_productOrQuotient_65 : decode cX3_productOrQuotient 65 = .ok (.iconst 0, 1) := by decide +kernel
theorem dX3_productOrQuotient_66 : decode cX3_productOrQuotient 66 = .ok (.invokevirtual 205, 3) := by decide +kernel
theorem dX3_productOrQuotient_69 : decode cX3_productOrQuotient 69 = .ok (.lload_n 2, 1) := by decide +kernel
theorem dX3_productOrQuotient_70 : decode cX3_productOrQuotient 70 = .ok (.lload 4, 2) := by decide +kernel
theorem dX3_productOrQuotient_72 : decode cX3_productOrQuotient 72 = .ok (.lmul, 1) := by decide +kernel
theorem dX3_productOrQuotient_73 : decode cX3_productOrQuotient 73 = .ok (.lreturn, 1) := by decide +kernel
theorem dX3_productOrQuotient_74 : decode cX3_productOrQuotient 74 = .ok (.aload_n 0, 1) := by decide +kernel
theorem dX3_productOrQuotient_75 : decode cX3_productOrQuotient 75 = .ok (.getfield 13, 3) := by decide +kernel
theorem dX3_productOrQuotient_78 : decode cX3_productOrQuotient 78 = .ok (.iconst 3, 1) := by decide +kernel
theorem dX3_productOrQuotient_79 : decode cX3_productOrQuotient 79 = .ok (.lload_n 2, 1) := by decide +kernel
theorem dX3_productOrQuotient_80 : decode cX3_productOrQuotient 80 = .ok (.lload 4, 2) := by decide +kernel
theorem dX3_productOrQuotient_82 : decode cX3_productOrQuotient 82 = .ok (.invokestatic 209, 3) := by decide +kernel
theorem dX3_productOrQuotient_85 : decode cX3_productOrQuotient 85 = .ok (.lastore, 1) := by decide +kernel
theorem dX3_productOrQuotient_86 : decode cX3_productOrQuotient 86 = .ok (.lload_n 2, 1) := by decide +kernel
theorem dX3_productOrQuotient_87 : decode cX3_productOrQuotient 87 = .ok (.lload 4, 2) := by decide +kernel
theorem dX3_productOrQuotient_89 : decode cX3_productOrQuotient 89 = .ok (.lmul, 1) := by decide +kernel
theorem dX3_productOrQuotient_90 : decode cX3_productOrQuotient 90 = .ok (.lreturn, 1) := by decide +kernel
theorem dX3_productOrQuotient_91 : decode cX3_productOrQuotient 91 = .ok (.aload_n 0, 1) := by decide +kernel
theorem dX3_productOrQuotient_92 : decode cX3_productOrQuotient 92 = .ok (.lload_n 2, 1) := by decide +kernel
theorem dX3_productOrQuotient_93 : decode cX3_productOrQuotient 93 = .ok (.lload 4, 2) := by decide +kernel
theorem dX3_productOrQuotient_95 : decode cX3_productOrQuotient 95 = .ok (.invokevirtual 212, 3) := by decide +kernel
theorem dX3_productOrQuotient_98 : decode cX3_productOrQuotient 98 = .ok (.lreturn, 1) := by decide +kernel
theorem dX3_productOrQuotient_99 : decode cX3_productOrQuotient 99 = .ok (.aload_n 0, 1) := by decide +kernel
theorem dX3_productOrQuotient_100 : decode cX3_productOrQuotient 100 = .ok (.aload_n 0, 1) := by decide +kernel
theorem dX3_productOrQuotient_101 : decode cX3_productOrQuotient 101 = .ok (.getfield 13, 3) := by decide +kernel
theorem dX3_productOrQuotient_104 : decode cX3_productOrQuotient 104 = .ok (.iconst 1, 1) := by decide +kernel
theorem dX3_productOrQuotient_105 : decode cX3_productOrQuotient 105 = .ok (.laload, 1) := by decide +kernel
theorem dX3_productOrQuotient_106 : decode cX3_productOrQuotient 106 = .ok (.lload_n 2, 1) := by decide +kernel
theorem dX3_productOrQuotient_107 : decode cX3_productOrQuotient 107 = .ok (.lload 4, 2) := by decide +kernel
theorem dX3_productOrQuotient_109 : decode cX3_productOrQuotient 109 = .ok (.invokevirtual 215, 3) := by decide +kernel
theorem dX3_productOrQuotient_112 : decode cX3_productOrQuotient 112 = .ok (.lreturn, 1) := by decide +kernel
set_option maxRecDepth 20000 in
theorem ggX3_quotient_X3_raise : GoodIn wsX3_quotient wsX3_raise := goodIn_r _ [10, 2, 15, 16, 17, 18, 19, 20, 21, 22, 23, 24, 25, 26] (by decide +kernel) (by decide +kernel)
set_option maxRecDepth 20000 in
theorem gX3_quotient_X3_raise : GoodIn wsX3_quotient (wsV RX3 205 RX3 yX3_raise wsX3_raise) := goodIn_app (goodIn_of _ (by decide +kernel)) ggX3_quotient_X3_raise
set_option maxRecDepth 20000 in
theorem ggX3_quotient_J9_floorDiv_f86c9 : GoodIn wsX3_quotient wsJ9_floorDiv_f86c9 := goodIn_r _ [14] (by decide +kernel) (by decide +kernel)
set_option maxRecDepth 20000 in
theorem gX3_quotient_J9_floorDiv_f86c9 : GoodIn wsX3_quotient (va_wsS RX3 223 yJ9_floorDiv_f86c9 wsJ9_floorDiv_f86c9) := goodIn_app (goodIn_of _ (by decide +kernel)) ggX3_quotient_J9_floorDiv_f86c9
theorem dX3_quotient_0 : decode cX3_quotient 0 = .ok (.lload_n 3, 1) := by decide +kernel
theorem dX3_quotient_1 : decode cX3_quotient 1 = .ok (.lconst 0, 1) := by decide +kernel
theorem dX3_quotient_2 : decode cX3_quotient 2 = .ok (.lcmp, 1) := by decide +kernel
theorem dX3_quotient_3 : decode cX3_quotient 3 = .ok (.ifCond .ne 21, 3) := by decide +kernel
theorem dX3_quotient_6 : decode cX3_quotient 6 = .ok (.aload_n 0, 1) := by decide +kernel
theorem dX3_quotient_7 : decode cX3_quotient 7 = .ok (.ldc2_w 219, 3) := by decide +kernel
theorem dX3_quotient_10 : decode cX3_quotient 10 = .ok (.iconst 1, 1) := by decide +kernel
theorem dX3_quotient_11 : decode cX3_quotient 11 = .ok (.invokevirtual 205, 3) := by decide +kernel
theorem dX3_quotient_14 : decode cX3_quotient 14 = .ok (.aload_n 0, 1) := by decide +kernel
theorem dX3_quotient_15 : decode cX3_quotient 15 = .ok (.getfield 13, 3) := by decide +kernel
theorem dX3_quotient_18 : decode cX3_quotient 18 = .ok (.bipush 6, 2) := by decide +kernel
theorem dX3_quotient_20 : decode cX3_quotient 20 = .ok (.lload_n 1, 1) := by decide +kernel
theorem dX3_quotient_21 : decode cX3_quotient 21 = .ok (.lastore, 1) := by decide +kernel
theorem dX3_quotient_22 : decode cX3_quotient 22 = .ok (.lconst 0, 1) := by decide +kernel
theorem dX3_quotient_23 : decode cX3_quotient 23 = .ok (.lreturn, 1) := by decide +kernel
theorem dX3_quotient_24 : decode cX3_quotient 24 = .ok (.aload_n 0, 1) := by decide +kernel
theorem dX3_quotient_25 : decode cX3_quotient 25 = .ok (.ldc2_w 199, 3) := by decide +kernel
theorem dX3_quotient_28 : decode cX3_quotient 28 = .ok (.lload_n 1, 1) := by decide +kernel
theorem dX3_quotient_29 : decode cX3_quotient 29 = .ok (.ldc2_w 221, 3) := by decide +kernel
theorem dX3_quotient_32 : decode cX3_quotient 32 = .ok (.lcmp, 1) := by decide +kernel
theorem dX3_quotient_33 : decode cX3_quotient 33 = .ok (.ifCond .ne 15, 3) := by decide +kernel
theorem dX3_quotient_36 : decode cX3_quotient 36 = .ok (.lload_n 3, 1) := by decide +kernel
theorem dX3_quotient_37 : decode cX3_quotient 37 = .ok (.ldc2_w 104, 3) := by decide +kernel
theorem dX3_quotient_40 : decode cX3_quotient 40 = .ok (.lcmp, 1) := by decide +kernel
theorem dX3_quotient_41 : decode cX3_quotient 41 = .ok (.ifCond .ne 7, 3) := by decide +kernel
theorem dX3_quotient_44 : decode cX3_quotient 44 = .ok (.iconst 1, 1) := by decide +kernel
theorem dX3_quotient_45 : decode cX3_quotient 45 = .ok (.goto 4, 3) := by decide +kernel
theorem dX3_quotient_48 : decode cX3_quotient 48 = .ok (.iconst 0, 1) := by decide +kernel
theorem dX3_quotient_49 : decode cX3_quotient 49 = .ok (.invokevirtual 205, 3) := by decide +kernel
theorem dX3_quotient_52 : decode cX3_quotient 52 = .ok (.lload_n 1, 1) := by decide +kernel
theorem dX3_quotient_53 : decode cX3_quotient 53 = .ok (.lload_n 3, 1) := by decide +kernel
theorem dX3_quotient_54 : decode cX3_quotient 54 = .ok (.invokestatic 223, 3) := by decide +kernel
theorem dX3_quotient_57 : decode cX3_quotient 57 = .ok (.lstore 5, 2) := by decide +kernel
theorem dX3_quotient_59 : decode cX3_quotient 59 = .ok (.aload_n 0, 1) := by decide +kernel
theorem dX3_quotient_60 : decode cX3_quotient 60 = .ok (.getfield 13, 3) := by decide +kernel
theorem dX3_quotient_63 : decode cX3_quotient 63 = .ok (.bipush 6, 2) := by decide +kernel
theorem dX3_quotient_65 : decode cX3_quotient 65 = .ok (.lload_n 1, 1) := by decide +kernel
theorem dX3_quotient_66 : decode cX3_quotient 66 = .ok (.lload_n 3, 1) := by decide +kernel
theorem dX3_quotient_67 : decode cX3_quotient 67 = .ok (.lload 5, 2) := by decide +kernel
theorem dX3_quotient_69 : decode cX3_quotient 69 = .ok (.lmul, 1) := by decide +kernel
theorem dX3_quotient_70 : decode cX3_quotient 70 = .ok (.lsub, 1) := by decide +kernel
theorem dX3_quotient_71 : decode cX3_quotient 71 = .ok (.lastore, 1) := by decide +kernel
theorem dX3_quotient_72 : decode cX3_quotient 72 = .ok (.lload 5, 2) := by decide +kernel
theorem dX3_quotient_74 : decode cX3_quotient 74 = .ok (.lreturn, 1) := by decide +kernel
set_option maxRecDepth 20000 in
theorem ggX3_longQuotient_X2_isAbove : GoodIn wsX3_longQuotient wsX2_isAbove := goodIn_r _ [4, 5] (by decide +kernel) (by decide +kernel)
set_option maxRecDepth 20000 in
theorem gX3_longQuotient_X2_isAbove_n228 : GoodIn wsX3_longQuotient (wsX2_isAbove) := ggX3_longQuotient_X2_isAbove
theorem dX3_longQuotient_0 : decode cX3_longQuotient 0 = .ok (.lload 5, 2) := by decide +kernel
theorem dX3_longQuotient_2 : decode cX3_longQuotient 2 = .ok (.lload_n 1, 1) := by decide +kernel
theorem dX3_longQuotient_3 : decode cX3_longQuotient 3 = .ok (.invokestatic 228, 3) := by decide +kernel
theorem dX3_longQuotient_6 : decode cX3_longQuotient 6 = .ok (.ifCond .ne 13, 3) := by decide +kernel
theorem dX3_longQuotient_9 : decode cX3_longQuotient 9 = .ok (.aload_n 0, 1) := by decide +kernel
theorem dX3_longQuotient_10 : decode cX3_longQuotient 10 = .ok (.getfield 13, 3) := by decide +kernel
theorem dX3_longQuotient_13 : decode cX3_longQuotient 13 = .ok (.bipush 6, 2) := by decide +kernel
theorem dX3_longQuotient_15 : decode cX3_longQuotient 15 = .ok (.lload_n 3, 1) := by decide +kernel
theorem dX3_longQuotient_16 : decode cX3_longQuotient 16 = .ok (.lastore, 1) := by decide +kernel
theorem dX3_longQuotient_17 : decode cX3_longQuotient 17 = .ok (.lload_n 1, 1) := by decide +kernel
theorem dX3_longQuotient_18 : decode cX3_longQuotient 18 = .ok (.lreturn, 1) := by decide +kernel
theorem dX3_longQuotient_19 : decode cX3_longQuotient 19 = .ok (.lload_n 1, 1) := by decide +kernel
theorem dX3_longQuotient_20 : decode cX3_longQuotient 20 = .ok (.lstore 7, 2) := by decide +kernel
theorem dX3_longQuotient_22 : decode cX3_longQuotient 22 = .ok (.lconst 0, 1) := by decide +kernel
theorem dX3_longQuotient_23 : decode cX3_longQuotient 23 = .ok (.lstore 9, 2) := by decide +kernel
theorem dX3_longQuotient_25 : decode cX3_longQuotient 25 = .ok (.bipush 63, 2) := by decide +kernel
theorem dX3_longQuotient_27 : decode cX3_longQuotient 27 = .ok (.istore 11, 2) := by decide +kernel
theorem dX3_longQuotient_29 : decode cX3_longQuotient 29 = .ok (.iload 11, 2) := by decide +kernel
theorem dX3_longQuotient_31 : decode cX3_longQuotient 31 = .ok (.ifCond .lt 70, 3) := by decide +kernel
theorem dX3_longQuotient_34 : decode cX3_longQuotient 34 = .ok (.lload 7, 2) := by decide +kernel
theorem dX3_longQuotient_36 : decode cX3_longQuotient 36 = .ok (.lconst 0, 1) := by decide +kernel
theorem dX3_longQuotient_37 : decode cX3_longQuotient 37 = .ok (.lcmp, 1) := by decide +kernel
theorem dX3_longQuotient_38 : decode cX3_longQuotient 38 = .ok (.ifCond .ge 7, 3) := by decide +kernel
theorem dX3_longQuotient_41 : decode cX3_longQuotient 41 = .ok (.iconst 1, 1) := by decide +kernel
theorem dX3_longQuotient_42 : decode cX3_longQuotient 42 = .ok (.goto 4, 3) := by decide +kernel
theorem dX3_longQuotient_45 : decode cX3_longQuotient 45 = .ok (.iconst 0, 1) := by decide +kernel
theorem dX3_longQuotient_46 : decode cX3_longQuotient 46 = .ok (.istore 12, 2) := by decide +kernel
theorem dX3_longQuotient_48 : decode cX3_longQuotient 48 = .ok (.lload 7, 2) := by decide +kernel
theorem dX3_longQuotient_50 : decode cX3_longQuotient 50 = .ok (.iconst 1, 1) := by decide +kernel
theorem dX3_longQuotient_51 : decode cX3_longQuotient 51 = .ok (.lshl, 1) := by decide +kernel
theorem dX3_longQuotient_52 : decode cX3_longQuotient 52 = .ok (.lload_n 3, 1) := by decide +kernel
theorem dX3_longQuotient_53 : decode cX3_longQuotient 53 = .ok (.iload 11, 2) := by decide +kernel
theorem dX3_longQuotient_55 : decode cX3_longQuotient 55 = .ok (.lushr, 1) := by decide +kernel
theorem dX3_longQuotient_56 : decode cX3_longQuotient 56 = .ok (.lconst 1, 1) := by decide +kernel
theorem dX3_longQuotient_57 : decode cX3_longQuotient 57 = .ok (.land, 1) := by decide +kernel
theorem dX3_longQuotient_58 : decode cX3_longQuotient 58 = .ok (.lor, 1) := by decide +kernel
theorem dX3_longQuotient_59 : decode cX3_longQuotient 59 = .ok (.lstore 7, 2) := by decide +kernel
theorem dX3_longQuotient_61 : decode cX3_longQuotient 61 = .ok (.lload 9, 2) := by decide +kernel
theorem dX3_longQuotient_63 : decode cX3_longQuotient 63 = .ok (.iconst 1, 1) := by decide +kernel
theorem dX3_longQuotient_64 : decode cX3_longQuotient 64 = .ok (.lshl, 1) := by decide +kernel
theorem dX3_longQuotient_65 : decode cX3_longQuotient 65 = .ok (.lstore 9, 2) := by decide +kernel
theorem dX3_longQuotient_67 : decode cX3_longQuotient 67 = .ok (.iload 12, 2) := by decide +kernel
theorem dX3_longQuotient_69 : decode cX3_longQuotient 69 = .ok (.ifCond .ne 13, 3) := by decide +kernel
theorem dX3_longQuotient_72 : decode cX3_longQuotient 72 = .ok (.lload 5, 2) := by decide +kernel
theorem dX3_longQuotient_74 : decode cX3_longQuotient 74 = .ok (.lload 7, 2) := by decide +kernel
theorem dX3_longQuotient_76 : decode cX3_longQuotient 76 = .ok (.invokestatic 228, 3) := by decide +kernel
theorem dX3_longQuotient_79 : decode cX3_longQuotient 79 = .ok (.ifCond .ne 16, 3) := by decide +kernel
theorem dX3_longQuotient_82 : decode cX3_longQuotient 82 = .ok (.lload 7, 2) := by decide +kernel
theorem dX3_longQuotient_84 : decode cX3_longQuotient 84 = .ok (.lload 5, 2) := by decide +kernel
theorem dX3_longQuotient_86 : decode cX3_longQuotient 86 = .ok (.lsub, 1) := by decide +kernel
theorem dX3_longQuotient_87 : decode cX3_longQuotient 87 = .ok (.lstore 7, 2) := by decide +kernel
theorem dX3_longQuotient_89 : decode cX3_longQuotient 89 = .ok (.lload 9, 2) := by decide +kernel
theorem dX3_longQuotient_91 : decode cX3_longQuotient 91 = .ok (.lconst 1, 1) := by decide +kernel
theorem dX3_longQuotient_92 : decode cX3_longQuotient 92 = .ok (.lor, 1) := by decide +kernel
theorem dX3_longQuotient_93 : decode cX3_longQuotient 93 = .ok (.lstore 9, 2) := by decide +kernel
theorem dX3_longQuotient_95 : decode cX3_longQuotient 95 = .ok (.iinc 11 (-1), 3) := by decide +kernel
theorem dX3_longQuotient_98 : decode cX3_longQuotient 98 = .ok (.goto (-69), 3) := by decide +kernel
theorem dX3_longQuotient_101 : decode cX3_longQuotient 101 = .ok (.aload_n 0, 1) := by decide +kernel
theorem dX3_longQuotient_102 : decode cX3_longQuotient 102 = .ok (.getfield 13, 3) := by decide +kernel
theorem dX3_longQuotient_105 : decode cX3_longQuotient 105 = .ok (.bipush 6, 2) := by decide +kernel
theorem dX3_longQuotient_107 : decode cX3_longQuotient 107 = .ok (.lload 7, 2) := by decide +kernel
theorem dX3_longQuotient_109 : decode cX3_longQuotient 109 = .ok (.lastore, 1) := by decide +kernel
theorem dX3_longQuotient_110 : decode cX3_longQuotient 110 = .ok (.lload 9, 2) := by decide +kernel
theorem dX3_longQuotient_112 : decode cX3_longQuotient 112 = .ok (.lreturn, 1) := by decide +kernel
set_option maxRecDepth 20000 in
theorem ggX3_sumOrDifference_X3_checkedSum : GoodIn wsX3_sumOrDifference wsX3_checkedSum := goodIn_r _ [5, 6, 7, 8, 9, 4, 10, 11, 16, 17, 18, 19, 20, 21, 22, 23, 24, 25, 26, 27] (by decide +kernel) (by decide +kernel)
set_option maxRecDepth 20000 in
theorem gX3_sumOrDifference_X3_checkedSum : GoodIn wsX3_sumOrDifference (wsV RX3 232 RX3 yX3_checkedSum wsX3_checkedSum) := goodIn_app (goodIn_of _ (by decide +kernel)) ggX3_sumOrDifference_X3_checkedSum
set_option maxRecDepth 20000 in
theorem ggX3_sumOrDifference_X3_checkedDifference : GoodIn wsX3_sumOrDifference wsX3_checkedDifference := goodIn_r _ [15, 6, 7, 8, 9, 4, 10, 11, 16, 17, 18, 19, 20, 21, 22, 23, 24, 25, 26, 27] (by decide +kernel) (by decide +kernel)
set_option maxRecDepth 20000 in
theorem gX3_sumOrDifference_X3_checkedDifference : GoodIn wsX3_sumOrDifference (wsV RX3 235 RX3 yX3_checkedDifference wsX3_checkedDifference) := goodIn_app (goodIn_of _ (by decide +kernel)) ggX3_sumOrDifference_X3_checkedDifference
theorem dX3_sumOrDifference_0 : decode cX3_sumOrDifference 0 = .ok (.iload_n 1, 1) := by decide +kernel
theorem dX3_sumOrDifference_1 : decode cX3_sumOrDifference 1 = .ok (.sipush 254, 3) := by decide +kernel
theorem dX3_sumOrDifference_4 : decode cX3_sumOrDifference 4 = .ok (.iand, 1) := by decide +kernel
theorem dX3_sumOrDifference_5 : decode cX3_sumOrDifference 5 = .ok (.tableswitch 114 32 44 #[67, 114, 75, 114, 80, 114, 88, 114, 93, 114, 100, 114, 107], 67) := by decide +kernel
theorem dX3_sumOrDifference_72 : decode cX3_sumOrDifference 72 = .ok (.aload_n 0, 1) := by decide +kernel
theorem dX3_sumOrDifference_73 : decode cX3_sumOrDifference 73 = .ok (.lload_n 2, 1) := by decide +kernel
theorem dX3_sumOrDifference_74 : decode cX3_sumOrDifference 74 = .ok (.lload 4, 2) := by decide +kernel
theorem dX3_sumOrDifference_76 : decode cX3_sumOrDifference 76 = .ok (.invokevirtual 232, 3) := by decide +kernel
theorem dX3_sumOrDifference_79 : decode cX3_sumOrDifference 79 = .ok (.lreturn, 1) := by decide +kernel
theorem dX3_sumOrDifference_80 : decode cX3_sumOrDifference 80 = .ok (.lload_n 2, 1) := by decide +kernel
theorem dX3_sumOrDifference_81 : decode cX3_sumOrDifference 81 = .ok (.lload 4, 2) := by decide +kernel
theorem dX3_sumOrDifference_83 : decode cX3_sumOrDifference 83 = .ok (.ladd, 1) := by decide +kernel
theorem dX3_sumOrDifference_84 : decode cX3_sumOrDifference 84 = .ok (.lreturn, 1) := by decide +kernel
theorem dX3_sumOrDifference_85 : decode cX3_sumOrDifference 85 = .ok (.aload_n 0, 1) := by decide +kernel
theorem dX3_sumOrDifference_86 : decode cX3_sumOrDifference 86 = .ok (.lload_n 2, 1) := by decide +kernel
theorem dX3_sumOrDifference_87 : decode cX3_sumOrDifference 87 = .ok (.lload 4, 2) := by decide +kernel
theorem dX3_sumOrDifference_89 : decode cX3_sumOrDifference 89 = .ok (.invokevirtual 235, 3) := by decide +kernel
theorem dX3_sumOrDifference_92 : decode cX3_sumOrDifference 92 = .ok (.lreturn, 1) := by decide +kernel
theorem dX3_sumOrDifference_93 : decode cX3_sumOrDifference 93 = .ok (.lload_n 2, 1) := by decide +kernel
theorem dX3_sumOrDifference_94 : decode cX3_sumOrDifference 94 = .ok (.lload 4, 2) := by decide +kernel
theorem dX3_sumOrDifference_96 : decode cX3_sumOrDifference 96 = .ok (.lsub, 1) := by decide +kernel
theorem dX3_sumOrDifference_97 : decode cX3_sumOrDifference 97 = .ok (.lreturn, 1) := by decide +kernel
theorem dX3_sumOrDifference_98 : decode cX3_sumOrDifference 98 = .ok (.lload_n 2, 1) := by decide +kernel
theorem dX3_sumOrDifference_99 : decode cX3_sumOrDifference 99 = .ok (.iconst 1, 1) := by decide +kernel
theorem dX3_sumOrDifference_100 : decode cX3_sumOrDifference 100 = .ok (.lshl, 1) := by decide +kernel
theorem dX3_sumOrDifference_101 : decode cX3_sumOrDifference 101 = .ok (.lload 4, 2) := by decide +kernel
theorem dX3_sumOrDifference_103 : decode cX3_sumOrDifference 103 = .ok (.ladd, 1) := by decide +kernel
theorem dX3_sumOrDifference_104 : decode cX3_sumOrDifference 104 = .ok (.lreturn, 1) := by decide +kernel
theorem dX3_sumOrDifference_105 : decode cX3_sumOrDifference 105 = .ok (.lload_n 2, 1) := by decide +kernel
theorem dX3_sumOrDifference_106 : decode cX3_sumOrDifference 106 = .ok (.iconst 2, 1) := by decide +kernel
theorem dX3_sumOrDifference_107 : decode cX3_sumOrDifference 107 = .ok (.lshl, 1) := by decide +kernel
theorem dX3_sumOrDifference_108 : decode cX3_sumOrDifference 108 = .ok (.lload 4, 2) := by decide +kernel
theorem dX3_sumOrDifference_110 : decode cX3_sumOrDifference 110 = .ok (.ladd, 1) := by decide +kernel
theorem dX3_sumOrDifference_111 : decode cX3_sumOrDifference 111 = .ok (.lreturn, 1) := by decide +kernel
theorem dX3_sumOrDifference_112 : decode cX3_sumOrDifference 112 = .ok (.lload_n 2, 1) := by decide +kernel
theorem dX3_sumOrDifference_113 : decode cX3_sumOrDifference 113 = .ok (.iconst 3, 1) := by decide +kernel
theorem dX3_sumOrDifference_114 : decode cX3_sumOrDifference 114 = .ok (.lshl, 1) := by decide +kernel
theorem dX3_sumOrDifference_115 : decode cX3_sumOrDifference 115 = .ok (.lload 4, 2) := by decide +kernel
theorem dX3_sumOrDifference_117 : decode cX3_sumOrDifference 117 = .ok (.ladd, 1) := by decide +kernel
theorem dX3_sumOrDifference_118 : decode cX3_sumOrDifference 118 = .ok (.lreturn, 1) := by decide +kernel
theorem dX3_sumOrDifference_119 : decode cX3_sumOrDifference 119 = .ok (.lload_n 2, 1) := by decide +kernel
theorem dX3_sumOrDifference_120 : decode cX3_sumOrDifference 120 = .ok (.iconst 4, 1) := by decide +kernel
theorem dX3_sumOrDifference_121 : decode cX3_sumOrDifference 121 = .ok (.lshl, 1) := by decide +kernel
theorem dX3_sumOrDifference_122 : decode cX3_sumOrDifference 122 = .ok (.lload 4, 2) := by decide +kernel
theorem dX3_sumOrDifference_124 : decode cX3_sumOrDifference 124 = .ok (.ladd, 1) := by decide +kernel
theorem dX3_sumOrDifference_125 : decode cX3_sumOrDifference 125 = .ok (.lreturn, 1) := by decide +kernel
set_option maxRecDepth 20000 in
theorem ggX3_checkedSum_X3_raise : GoodIn wsX3_checkedSum wsX3_raise := goodIn_r _ [6, 7, 8, 9, 10, 11, 12, 13, 14, 15, 16, 17, 18, 19] (by decide +kernel) (by decide +kernel)
set_option maxRecDepth 20000 in
theorem gX3_checkedSum_X3_raise : GoodIn wsX3_checkedSum (wsV RX3 205 RX3 yX3_raise wsX3_raise) := goodIn_app (goodIn_of _ (by decide +kernel)) ggX3_checkedSum_X3_raise
theorem dX3_checkedSum_0 : decode cX3_checkedSum 0 = .ok (.lload_n 1, 1) := by decide +kernel
theorem dX3_checkedSum_1 : decode cX3_checkedSum 1 = .ok (.lload_n 3, 1) := by decide +kernel
theorem dX3_checkedSum_2 : decode cX3_checkedSum 2 = .ok (.ladd, 1) := by decide +kernel
theorem dX3_checkedSum_3 : decode cX3_checkedSum 3 = .ok (.lstore 5, 2) := by decide +kernel
theorem dX3_checkedSum_5 : decode cX3_checkedSum 5 = .ok (.aload_n 0, 1) := by decide +kernel
theorem dX3_checkedSum_6 : decode cX3_checkedSum 6 = .ok (.ldc2_w 199, 3) := by decide +kernel
theorem dX3_checkedSum_9 : decode cX3_checkedSum 9 = .ok (.lload 5, 2) := by decide +kernel
theorem dX3_checkedSum_11 : decode cX3_checkedSum 11 = .ok (.lload_n 1, 1) := by decide +kernel
theorem dX3_checkedSum_12 : decode cX3_checkedSum 12 = .ok (.lxor, 1) := by decide +kernel
theorem dX3_checkedSum_13 : decode cX3_checkedSum 13 = .ok (.lload 5, 2) := by decide +kernel
theorem dX3_checkedSum_15 : decode cX3_checkedSum 15 = .ok (.lload_n 3, 1) := by decide +kernel
theorem dX3_checkedSum_16 : decode cX3_checkedSum 16 = .ok (.lxor, 1) := by decide +kernel
theorem dX3_checkedSum_17 : decode cX3_checkedSum 17 = .ok (.land, 1) := by decide +kernel
theorem dX3_checkedSum_18 : decode cX3_checkedSum 18 = .ok (.lconst 0, 1) := by decide +kernel
theorem dX3_checkedSum_19 : decode cX3_checkedSum 19 = .ok (.lcmp, 1) := by decide +kernel
theorem dX3_checkedSum_20 : decode cX3_checkedSum 20 = .ok (.ifCond .ge 7, 3) := by decide +kernel
theorem dX3_checkedSum_23 : decode cX3_checkedSum 23 = .ok (.iconst 1, 1) := by decide +kernel
theorem dX3_checkedSum_24 : decode cX3_checkedSum 24 = .ok (.goto 4, 3) := by decide +kernel
theorem dX3_checkedSum_27 : decode cX3_checkedSum 27 = .ok (.iconst 0, 1) := by decide +kernel
theorem dX3_checkedSum_28 : decode cX3_checkedSum 28 = .ok (.invokevirtual 205, 3) := by decide +kernel
theorem dX3_checkedSum_31 : decode cX3_checkedSum 31 = .ok (.lload 5, 2) := by decide +kernel
theorem dX3_checkedSum_33 : decode cX3_checkedSum 33 = .ok (.lreturn, 1) := by decide +kernel
set_option maxRecDepth 20000 in
theorem ggX3_checkedDifference_X3_raise : GoodIn wsX3_checkedDifference wsX3_raise := goodIn_r _ [6, 7, 8, 9, 10, 11, 12, 13, 14, 15, 16, 17, 18, 19] (by decide +kernel) (by decide +kernel)
set_option maxRecDepth 20000 in
theorem gX3_checkedDifference_X3_raise : GoodIn wsX3_checkedDifference (wsV RX3 205 RX3 yX3_raise wsX3_raise) := goodIn_app (goodIn_of _ (by decide +kernel)) ggX3_checkedDifference_X3_raise
theorem dX3_checkedDifference_0 : decode cX3_checkedDifference 0 = .ok (.lload_n 1, 1) := by decide +kernel
theorem dX3_checkedDifference_1 : decode cX3_checkedDifference 1 = .ok (.lload_n 3, 1) := by decide +kernel
theorem dX3_checkedDifference_2 : decode cX3_checkedDifference 2 = .ok (.lsub, 1) := by decide +kernel
theorem dX3_checkedDifference_3 : decode cX3_checkedDifference 3 = .ok (.lstore 5, 2) := by decide +kernel
theorem dX3_checkedDifference_5 : decode cX3_checkedDifference 5 = .ok (.aload_n 0, 1) := by decide +kernel
theorem dX3_checkedDifference_6 : decode cX3_checkedDifference 6 = .ok (.ldc2_w 199, 3) := by decide +kernel
theorem dX3_checkedDifference_9 : decode cX3_checkedDifference 9 = .ok (.lload_n 1, 1) := by decide +kernel
theorem dX3_checkedDifference_10 : decode cX3_checkedDifference 10 = .ok (.lload_n 3, 1) := by decide +kernel
theorem dX3_checkedDifference_11 : decode cX3_checkedDifference 11 = .ok (.lxor, 1) := by decide +kernel
theorem dX3_checkedDifference_12 : decode cX3_checkedDifference 12 = .ok (.lload_n 1, 1) := by decide +kernel
theorem dX3_checkedDifference_13 : decode cX3_checkedDifference 13 = .ok (.lload 5, 2) := by decide +kernel
theorem dX3_checkedDifference_15 : decode cX3_checkedDifference 15 = .ok (.lxor, 1) := by decide +kernel
theorem dX3_checkedDifference_16 : decode cX3_checkedDifference 16 = .ok (.land, 1) := by decide +kernel
theorem dX3_checkedDifference_17 : decode cX3_checkedDifference 17 = .ok (.lconst 0, 1) := by decide +kernel
theorem dX3_checkedDifference_18 : decode cX3_checkedDifference 18 = .ok (.lcmp, 1) := by decide +kernel
theorem dX3_checkedDifference_19 : decode cX3_checkedDifference 19 = .ok (.ifCond .ge 7, 3) := by decide +kernel
theorem dX3_checkedDifference_22 : decode cX3_checkedDifference 22 = .ok (.iconst 1, 1) := by decide +kernel
theorem dX3_checkedDifference_23 : decode cX3_checkedDifference 23 = .ok (.goto 4, 3) := by decide +kernel
theorem dX3_checkedDifference_26 : decode cX3_checkedDifference 26 = .ok (.iconst 0, 1) := by decide +kernel
theorem dX3_checkedDifference_27 : decode cX3_checkedDifference 27 = .ok (.invokevirtual 205, 3) := by decide +kernel
theorem dX3_checkedDifference_30 : decode cX3_checkedDifference 30 = .ok (.lload 5, 2) := by decide +kernel
theorem dX3_checkedDifference_32 : decode cX3_checkedDifference 32 = .ok (.lreturn, 1) := by decide +kernel
set_option maxRecDepth 20000 in
theorem ggX3_comparedOrShifted_X3_opOf : GoodIn wsX3_comparedOrShifted wsX3_opOf := goodIn_r _ [5] (by decide +kernel) (by decide +kernel)
set_option maxRecDepth 20000 in
theorem gX3_comparedOrShifted_X3_opOf : GoodIn wsX3_comparedOrShifted (va_wsS RX3 124 yX3_opOf wsX3_opOf) := goodIn_app (goodIn_of _ (by decide +kernel)) ggX3_comparedOrShifted_X3_opOf
set_option maxRecDepth 20000 in
theorem ggX3_comparedOrShifted_X2_isAbove : GoodIn wsX3_comparedOrShifted wsX2_isAbove := goodIn_r _ [8, 9] (by decide +kernel) (by decide +kernel)
set_option maxRecDepth 20000 in
theorem gX3_comparedOrShifted_X2_isAbove_n228 : GoodIn wsX3_comparedOrShifted (wsX2_isAbove) := ggX3_comparedOrShifted_X2_isAbove
set_option maxRecDepth 20000 in
theorem ggX3_comparedOrShifted_X3_byteY : GoodIn wsX3_comparedOrShifted wsX3_byteY := goodIn_r _ [12] (by decide +kernel) (by decide +kernel)
set_option maxRecDepth 20000 in
theorem gX3_comparedOrShifted_X3_byteY : GoodIn wsX3_comparedOrShifted (va_wsS RX3 117 yX3_byteY wsX3_byteY) := goodIn_app (goodIn_of _ (by decide +kernel)) ggX3_comparedOrShifted_X3_byteY
set_option maxRecDepth 20000 in
theorem ggX3_comparedOrShifted_X3_checkedDifference : GoodIn wsX3_comparedOrShifted wsX3_checkedDifference := goodIn_r _ [16, 17, 18, 19, 20, 4, 21, 22, 37, 38, 39, 40, 41, 42, 43, 44, 45, 46, 47, 48] (by decide +kernel) (by decide +kernel)
set_option maxRecDepth 20000 in
theorem gX3_comparedOrShifted_X3_checkedDifference : GoodIn wsX3_comparedOrShifted (wsV RX3 235 RX3 yX3_checkedDifference wsX3_checkedDifference) := goodIn_app (goodIn_of _ (by decide +kernel)) ggX3_comparedOrShifted_X3_checkedDifference
set_option maxRecDepth 20000 in
theorem ggX3_comparedOrShifted_X3_checkedShift : GoodIn wsX3_comparedOrShifted wsX3_checkedShift := goodIn_r _ [26, 17, 27, 7, 28, 29, 30, 31, 32, 33, 34, 18, 19, 20, 4, 21, 22, 37, 38, 39, 40, 41, 42, 43, 44, 45, 46, 47, 48] (by decide +kernel) (by decide +kernel)
set_option maxRecDepth 20000 in
theorem gX3_comparedOrShifted_X3_checkedShift : GoodIn wsX3_comparedOrShifted (wsV RX3 238 RX3 yX3_checkedShift wsX3_checkedShift) := goodIn_app (goodIn_of _ (by decide +kernel)) ggX3_comparedOrShifted_X3_checkedShift
set_option maxRecDepth 20000 in
theorem ggX3_comparedOrShifted_X2_shiftLeft : GoodIn wsX3_comparedOrShifted wsX2_shiftLeft := goodIn_r _ [28, 29, 30, 7, 31, 32] (by decide +kernel) (by decide +kernel)
set_option maxRecDepth 20000 in
theorem gX3_comparedOrShifted_X2_shiftLeft_n241 : GoodIn wsX3_comparedOrShifted (wsX2_shiftLeft) := ggX3_comparedOrShifted_X2_shiftLeft
set_option maxRecDepth 20000 in
theorem ggX3_comparedOrShifted_X2_shiftRight : GoodIn wsX3_comparedOrShifted wsX2_shiftRight := goodIn_r _ [34, 29, 30, 7, 31, 32] (by decide +kernel) (by decide +kernel)
set_option maxRecDepth 20000 in
theorem gX3_comparedOrShifted_X2_shiftRight_n244 : GoodIn wsX3_comparedOrShifted (wsX2_shiftRight) := ggX3_comparedOrShifted_X2_shiftRight
set_option maxRecDepth 20000 in
theorem ggX3_comparedOrShifted_X2_shiftRightUnsigned : GoodIn wsX3_comparedOrShifted wsX2_shiftRightUnsigned := goodIn_r _ [36, 29, 30, 7, 31, 32] (by decide +kernel) (by decide +kernel)
set_option maxRecDepth 20000 in
theorem gX3_comparedOrShifted_X2_shiftRightUnsigned_n247 : GoodIn wsX3_comparedOrShifted (wsX2_shiftRightUnsigned) := ggX3_comparedOrShifted_X2_shiftRightUnsigned
theorem dX3_comparedOrShifted_0 : decode cX3_comparedOrShifted 0 = .ok (.iload_n 1, 1) := by decide +kernel
theorem dX3_comparedOrShifted_1 : decode cX3_comparedOrShifted 1 = .ok (.invokestatic 124, 3) := by decide +kernel
theorem dX3_comparedOrShifted_4 : decode cX3_comparedOrShifted 4 = .ok (.sipush 254, 3) := by decide +kernel
theorem dX3_comparedOrShifted_7 : decode cX3_comparedOrShifted 7 = .ok (.iand, 1) := by decide +kernel
theorem dX3_comparedOrShifted_8 : decode cX3_comparedOrShifted 8 = .ok (.tableswitch 167 48 60 #[68, 167, 94, 167, 124, 167, 136, 167, 145, 167, 153, 167, 160], 68) := by decide +kernel
theorem dX3_comparedOrShifted_76 : decode cX3_comparedOrShifted 76 = .ok (.lload_n 2, 1) := by decide +kernel
theorem dX3_comparedOrShifted_77 : decode cX3_comparedOrShifted 77 = .ok (.lload 4, 2) := by decide +kernel
theorem dX3_comparedOrShifted_79 : decode cX3_comparedOrShifted 79 = .ok (.lcmp, 1) := by decide +kernel
theorem dX3_comparedOrShifted_80 : decode cX3_comparedOrShifted 80 = .ok (.ifCond .ge 9, 3) := by decide +kernel
theorem dX3_comparedOrShifted_83 : decode cX3_comparedOrShifted 83 = .ok (.ldc2_w 104, 3) := by decide +kernel
theorem dX3_comparedOrShifted_86 : decode cX3_comparedOrShifted 86 = .ok (.goto 15, 3) := by decide +kernel
theorem dX3_comparedOrShifted_89 : decode cX3_comparedOrShifted 89 = .ok (.lload_n 2, 1) := by decide +kernel
theorem dX3_comparedOrShifted_90 : decode cX3_comparedOrShifted 90 = .ok (.lload 4, 2) := by decide +kernel
theorem dX3_comparedOrShifted_92 : decode cX3_comparedOrShifted 92 = .ok (.lcmp, 1) := by decide +kernel
theorem dX3_comparedOrShifted_93 : decode cX3_comparedOrShifted 93 = .ok (.ifCond .le 7, 3) := by decide +kernel
theorem dX3_comparedOrShifted_96 : decode cX3_comparedOrShifted 96 = .ok (.lconst 1, 1) := by decide +kernel
theorem dX3_comparedOrShifted_97 : decode cX3_comparedOrShifted 97 = .ok (.goto 4, 3) := by decide +kernel
theorem dX3_comparedOrShifted_100 : decode cX3_comparedOrShifted 100 = .ok (.lconst 0, 1) := by decide +kernel
theorem dX3_comparedOrShifted_101 : decode cX3_comparedOrShifted 101 = .ok (.lreturn, 1) := by decide +kernel
theorem dX3_comparedOrShifted_102 : decode cX3_comparedOrShifted 102 = .ok (.lload 4, 2) := by decide +kernel
theorem dX3_comparedOrShifted_104 : decode cX3_comparedOrShifted 104 = .ok (.lload_n 2, 1) := by decide +kernel
theorem dX3_comparedOrShifted_105 : decode cX3_comparedOrShifted 105 = .ok (.invokestatic 228, 3) := by decide +kernel
theorem dX3_comparedOrShifted_108 : decode cX3_comparedOrShifted 108 = .ok (.ifCond .eq 9, 3) := by decide +kernel
theorem dX3_comparedOrShifted_111 : decode cX3_comparedOrShifted 111 = .ok (.ldc2_w 104, 3) := by decide +kernel
theorem dX3_comparedOrShifted_114 : decode cX3_comparedOrShifted 114 = .ok (.goto 17, 3) := by decide +kernel
theorem dX3_comparedOrShifted_117 : decode cX3_comparedOrShifted 117 = .ok (.lload_n 2, 1) := by decide +kernel
theorem dX3_comparedOrShifted_118 : decode cX3_comparedOrShifted 118 = .ok (.lload 4, 2) := by decide +kernel
theorem dX3_comparedOrShifted_120 : decode cX3_comparedOrShifted 120 = .ok (.invokestatic 228, 3) := by decide +kernel
theorem dX3_comparedOrShifted_123 : decode cX3_comparedOrShifted 123 = .ok (.ifCond .eq 7, 3) := by decide +kernel
theorem dX3_comparedOrShifted_126 : decode cX3_comparedOrShifted 126 = .ok (.lconst 1, 1) := by decide +kernel
theorem dX3_comparedOrShifted_127 : decode cX3_comparedOrShifted 127 = .ok (.goto 4, 3) := by decide +kernel
theorem dX3_comparedOrShifted_130 : decode cX3_comparedOrShifted 130 = .ok (.lconst 0, 1) := by decide +kernel
theorem dX3_comparedOrShifted_131 : decode cX3_comparedOrShifted 131 = .ok (.lreturn, 1) := by decide +kernel
theorem dX3_comparedOrShifted_132 : decode cX3_comparedOrShifted 132 = .ok (.aload_n 0, 1) := by decide +kernel
theorem dX3_comparedOrShifted_133 : decode cX3_comparedOrShifted 133 = .ok (.iload_n 1, 1) := by decide +kernel
theorem dX3_comparedOrShifted_134 : decode cX3_comparedOrShifted 134 = .ok (.invokestatic 117, 3) := by decide +kernel
theorem dX3_comparedOrShifted_137 : decode cX3_comparedOrShifted 137 = .ok (.i2l, 1) := by decide +kernel
theorem dX3_comparedOrShifted_138 : decode cX3_comparedOrShifted 138 = .ok (.lload 4, 2) := by decide +kernel
theorem dX3_comparedOrShifted_140 : decode cX3_comparedOrShifted 140 = .ok (.invokevirtual 235, 3) := by decide +kernel
theorem dX3_comparedOrShifted_143 : decode cX3_comparedOrShifted 143 = .ok (.lreturn, 1) := by decide +kernel
theorem dX3_comparedOrShifted_144 : decode cX3_comparedOrShifted 144 = .ok (.iload_n 1, 1) := by decide +kernel
theorem dX3_comparedOrShifted_145 : decode cX3_comparedOrShifted 145 = .ok (.invokestatic 117, 3) := by decide +kernel
theorem dX3_comparedOrShifted_148 : decode cX3_comparedOrShifted 148 = .ok (.i2l, 1) := by decide +kernel
theorem dX3_comparedOrShifted_149 : decode cX3_comparedOrShifted 149 = .ok (.lload 4, 2) := by decide +kernel
theorem dX3_comparedOrShifted_151 : decode cX3_comparedOrShifted 151 = .ok (.lsub, 1) := by decide +kernel
theorem dX3_comparedOrShifted_152 : decode cX3_comparedOrShifted 152 = .ok (.lreturn, 1) := by decide +kernel
theorem dX3_comparedOrShifted_153 : decode cX3_comparedOrShifted 153 = .ok (.aload_n 0, 1) := by decide +kernel
theorem dX3_comparedOrShifted_154 : decode cX3_comparedOrShifted 154 = .ok (.lload_n 2, 1) := by decide +kernel
theorem dX3_comparedOrShifted_155 : decode cX3_comparedOrShifted 155 = .ok (.lload 4, 2) := by decide +kernel
theorem dX3_comparedOrShifted_157 : decode cX3_comparedOrShifted 157 = .ok (.invokevirtual 238, 3) := by decide +kernel
theorem dX3_comparedOrShifted_160 : decode cX3_comparedOrShifted 160 = .ok (.lreturn, 1) := by decide +kernel
theorem dX3_comparedOrShifted_161 : decode cX3_comparedOrShifted 161 = .ok (.lload_n 2, 1) := by decide +kernel
theorem dX3_comparedOrShifted_162 : decode cX3_comparedOrShifted 162 = .ok (.lload 4, 2) := by decide +kernel
theorem dX3_comparedOrShifted_164 : decode cX3_comparedOrShifted 164 = .ok (.invokestatic 241, 3) := by decide +kernel
theorem dX3_comparedOrShifted_167 : decode cX3_comparedOrShifted 167 = .ok (.lreturn, 1) := by decide +kernel
theorem dX3_comparedOrShifted_168 : decode cX3_comparedOrShifted 168 = .ok (.lload_n 2, 1) := by decide +kernel
theorem dX3_comparedOrShifted_169 : decode cX3_comparedOrShifted 169 = .ok (.lload 4, 2) := by decide +kernel
theorem dX3_comparedOrShifted_171 : decode cX3_comparedOrShifted 171 = .ok (.invokestatic 244, 3) := by decide +kernel
theorem dX3_comparedOrShifted_174 : decode cX3_comparedOrShifted 174 = .ok (.lreturn, 1) := by decide +kernel
theorem dX3_comparedOrShifted_175 : decode cX3_comparedOrShifted 175 = .ok (.lload_n 2, 1) := by decide +kernel
theorem dX3_comparedOrShifted_176 : decode cX3_comparedOrShifted 176 = .ok (.lload 4, 2) := by decide +kernel
theorem dX3_comparedOrShifted_178 : decode cX3_comparedOrShifted 178 = .ok (.invokestatic 247, 3) := by decide +kernel
theorem dX3_comparedOrShifted_181 : decode cX3_comparedOrShifted 181 = .ok (.lreturn, 1) := by decide +kernel
set_option maxRecDepth 20000 in
theorem ggX3_checkedShift_X2_shiftLeft : GoodIn wsX3_checkedShift wsX2_shiftLeft := goodIn_r _ [4, 5, 6, 3, 7, 8] (by decide +kernel) (by decide +kernel)
set_option maxRecDepth 20000 in
theorem gX3_checkedShift_X2_shiftLeft_n241 : GoodIn wsX3_checkedShift (wsX2_shiftLeft) := ggX3_checkedShift_X2_shiftLeft
set_option maxRecDepth 20000 in
theorem ggX3_checkedShift_X2_shiftRight : GoodIn wsX3_checkedShift wsX2_shiftRight := goodIn_r _ [10, 5, 6, 3, 7, 8] (by decide +kernel) (by decide +kernel)
set_option maxRecDepth 20000 in
theorem gX3_checkedShift_X2_shiftRight_n244 : GoodIn wsX3_checkedShift (wsX2_shiftRight) := ggX3_checkedShift_X2_shiftRight
set_option maxRecDepth 20000 in
theorem ggX3_checkedShift_X3_raise : GoodIn wsX3_checkedShift wsX3_raise := goodIn_r _ [15, 16, 17, 18, 19, 20, 21, 22, 23, 24, 25, 26, 27, 28] (by decide +kernel) (by decide +kernel)
set_option maxRecDepth 20000 in
theorem gX3_checkedShift_X3_raise : GoodIn wsX3_checkedShift (wsV RX3 205 RX3 yX3_raise wsX3_raise) := goodIn_app (goodIn_of _ (by decide +kernel)) ggX3_checkedShift_X3_raise
theorem dX3_checkedShift_0 : decode cX3_checkedShift 0 = .ok (.lload_n 1, 1) := by decide +kernel
theorem dX3_checkedShift_1 : decode cX3_checkedShift 1 = .ok (.lload_n 3, 1) := by decide +kernel
theorem dX3_checkedShift_2 : decode cX3_checkedShift 2 = .ok (.invokestatic 241, 3) := by decide +kernel
theorem dX3_checkedShift_5 : decode cX3_checkedShift 5 = .ok (.lstore 5, 2) := by decide +kernel
theorem dX3_checkedShift_7 : decode cX3_checkedShift 7 = .ok (.aload_n 0, 1) := by decide +kernel
theorem dX3_checkedShift_8 : decode cX3_checkedShift 8 = .ok (.ldc2_w 199, 3) := by decide +kernel
theorem dX3_checkedShift_11 : decode cX3_checkedShift 11 = .ok (.lload 5, 2) := by decide +kernel
theorem dX3_checkedShift_13 : decode cX3_checkedShift 13 = .ok (.lload_n 3, 1) := by decide +kernel
theorem dX3_checkedShift_14 : decode cX3_checkedShift 14 = .ok (.invokestatic 244, 3) := by decide +kernel
theorem dX3_checkedShift_17 : decode cX3_checkedShift 17 = .ok (.lload_n 1, 1) := by decide +kernel
theorem dX3_checkedShift_18 : decode cX3_checkedShift 18 = .ok (.lcmp, 1) := by decide +kernel
theorem dX3_checkedShift_19 : decode cX3_checkedShift 19 = .ok (.ifCond .eq 7, 3) := by decide +kernel
theorem dX3_checkedShift_22 : decode cX3_checkedShift 22 = .ok (.iconst 1, 1) := by decide +kernel
theorem dX3_checkedShift_23 : decode cX3_checkedShift 23 = .ok (.goto 4, 3) := by decide +kernel
theorem dX3_checkedShift_26 : decode cX3_checkedShift 26 = .ok (.iconst 0, 1) := by decide +kernel
theorem dX3_checkedShift_27 : decode cX3_checkedShift 27 = .ok (.invokevirtual 205, 3) := by decide +kernel
theorem dX3_checkedShift_30 : decode cX3_checkedShift 30 = .ok (.lload 5, 2) := by decide +kernel
theorem dX3_checkedShift_32 : decode cX3_checkedShift 32 = .ok (.lreturn, 1) := by decide +kernel
theorem dX3_holds_0 : decode cX3_holds 0 = .ok (.iload_n 0, 1) := by decide +kernel
theorem dX3_holds_1 : decode cX3_holds 1 = .ok (.iconst 1, 1) := by decide +kernel
theorem dX3_holds_2 : decode cX3_holds 2 = .ok (.ishr, 1) := by decide +kernel
theorem dX3_holds_3 : decode cX3_holds 3 = .ok (.bipush 7, 2) := by decide +kernel
theorem dX3_holds_5 : decode cX3_holds 5 = .ok (.iand, 1) := by decide +kernel
theorem dX3_holds_6 : decode cX3_holds 6 = .ok (.tableswitch 128 0 6 #[42, 54, 66, 78, 92, 104, 116], 42) := by decide +kernel
theorem dX3_holds_48 : decode cX3_holds 48 = .ok (.lload_n 1, 1) := by decide +kernel
theorem dX3_holds_49 : decode cX3_holds 49 = .ok (.lconst 0, 1) := by decide +kernel
theorem dX3_holds_50 : decode cX3_holds 50 = .ok (.lcmp, 1) := by decide +kernel
theorem dX3_holds_51 : decode cX3_holds 51 = .ok (.ifCond .ge 7, 3) := by decide +kernel
theorem dX3_holds_54 : decode cX3_holds 54 = .ok (.iconst 1, 1) := by decide +kernel
theorem dX3_holds_55 : decode cX3_holds 55 = .ok (.goto 4, 3) := by decide +kernel
theorem dX3_holds_58 : decode cX3_holds 58 = .ok (.iconst 0, 1) := by decide +kernel
theorem dX3_holds_59 : decode cX3_holds 59 = .ok (.ireturn, 1) := by decide +kernel
theorem dX3_holds_60 : decode cX3_holds 60 = .ok (.lload_n 1, 1) := by decide +kernel
theorem dX3_holds_61 : decode cX3_holds 61 = .ok (.lconst 0, 1) := by decide +kernel
theorem dX3_holds_62 : decode cX3_holds 62 = .ok (.lcmp, 1) := by decide +kernel
theorem dX3_holds_63 : decode cX3_holds 63 = .ok (.ifCond .ne 7, 3) := by decide +kernel
theorem dX3_holds_66 : decode cX3_holds 66 = .ok (.iconst 1, 1) := by decide +kernel
theorem dX3_holds_67 : decode cX3_holds 67 = .ok (.goto 4, 3) := by decide +kernel
theorem dX3_holds_70 : decode cX3_holds 70 = .ok (.iconst 0, 1) := by decide +kernel
theorem dX3_holds_71 : decode cX3_holds 71 = .ok (.ireturn, 1) := by decide +kernel
theorem dX3_holds_72 : decode cX3_holds 72 = .ok (.lload_n 1, 1) := by decide +kernel
theorem dX3_holds_73 : decode cX3_holds 73 = .ok (.lconst 0, 1) := by decide +kernel
theorem dX3_holds_74 : decode cX3_holds 74 = .ok (.lcmp, 1) := by decide +kernel
theorem dX3_holds_75 : decode cX3_holds 75 = .ok (.ifCond .le 7, 3) := by decide +kernel
theorem dX3_holds_78 : decode cX3_holds 78 = .ok (.iconst 1, 1) := by decide +kernel
theorem dX3_holds_79 : decode cX3_holds 79 = .ok (.goto 4, 3) := by decide +kernel
theorem dX3_holds_82 : decode cX3_holds 82 = .ok (.iconst 0, 1) := by decide +kernel
theorem dX3_holds_83 : decode cX3_holds 83 = .ok (.ireturn, 1) := by decide +kernel
theorem dX3_holds_84 : decode cX3_holds 84 = .ok (.lload_n 1, 1) := by decide +kernel
theorem dX3_holds_85 : decode cX3_holds 85 = .ok (.lconst 1, 1) := by decide +kernel
theorem dX3_holds_86 : decode cX3_holds 86 = .ok (.land, 1) := by decide +kernel
theorem dX3_holds_87 : decode cX3_holds 87 = .ok (.lconst 1, 1) := by decide +kernel
theorem dX3_holds_88 : decode cX3_holds 88 = .ok (.lcmp, 1) := by decide +kernel
theorem dX3_holds_89 : decode cX3_holds 89 = .ok (.ifCond .ne 7, 3) := by decide +kernel
theorem dX3_holds_92 : decode cX3_holds 92 = .ok (.iconst 1, 1) := by decide +kernel
theorem dX3_holds_93 : decode cX3_holds 93 = .ok (.goto 4, 3) := by decide +kernel
theorem dX3_holds_96 : decode cX3_holds 96 = .ok (.iconst 0, 1) := by decide +kernel
theorem dX3_holds_97 : decode cX3_holds 97 = .ok (.ireturn, 1) := by decide +kernel
theorem dX3_holds_98 : decode cX3_holds 98 = .ok (.lload_n 1, 1) := by decide +kernel
theorem dX3_holds_99 : decode cX3_holds 99 = .ok (.lconst 0, 1) := by decide +kernel
theorem dX3_holds_100 : decode cX3_holds 100 = .ok (.lcmp, 1) := by decide +kernel
theorem dX3_holds_101 : decode cX3_holds 101 = .ok (.ifCond .lt 7, 3) := by decide +kernel
theorem dX3_holds_104 : decode cX3_holds 104 = .ok (.iconst 1, 1) := by decide +kernel
theorem dX3_holds_105 : decode cX3_holds 105 = .ok (.goto 4, 3) := by decide +kernel
theorem dX3_holds_108 : decode cX3_holds 108 = .ok (.iconst 0, 1) := by decide +kernel
theorem dX3_holds_109 : decode cX3_holds 109 = .ok (.ireturn, 1) := by decide +kernel
theorem dX3_holds_110 : decode cX3_holds 110 = .ok (.lload_n 1, 1) := by decide +kernel
theorem dX3_holds_111 : decode cX3_holds 111 = .ok (.lconst 0, 1) := by decide +kernel
theorem dX3_holds_112 : decode cX3_holds 112 = .ok (.lcmp, 1) := by decide +kernel
theorem dX3_holds_113 : decode cX3_holds 113 = .ok (.ifCond .eq 7, 3) := by decide +kernel
theorem dX3_holds_116 : decode cX3_holds 116 = .ok (.iconst 1, 1) := by decide +kernel
theorem dX3_holds_117 : decode cX3_holds 117 = .ok (.goto 4, 3) := by decide +kernel
theorem dX3_holds_120 : decode cX3_holds 120 = .ok (.iconst 0, 1) := by decide +kernel
theorem dX3_holds_121 : decode cX3_holds 121 = .ok (.ireturn, 1) := by decide +kernel
theorem dX3_holds_122 : decode cX3_holds 122 = .ok (.lload_n 1, 1) := by decide +kernel
theorem dX3_holds_123 : decode cX3_holds 123 = .ok (.lconst 0, 1) := by decide +kernel
theorem dX3_holds_124 : decode cX3_holds 124 = .ok (.lcmp, 1) := by decide +kernel
theorem dX3_holds_125 : decode cX3_holds 125 = .ok (.ifCond .gt 7, 3) := by decide +kernel
theorem dX3_holds_128 : decode cX3_holds 128 = .ok (.iconst 1, 1) := by decide +kernel
theorem dX3_holds_129 : decode cX3_holds 129 = .ok (.goto 4, 3) := by decide +kernel
theorem dX3_holds_132 : decode cX3_holds 132 = .ok (.iconst 0, 1) := by decide +kernel
theorem dX3_holds_133 : decode cX3_holds 133 = .ok (.ireturn, 1) := by decide +kernel
theorem dX3_holds_134 : decode cX3_holds 134 = .ok (.lload_n 1, 1) := by decide +kernel
theorem dX3_holds_135 : decode cX3_holds 135 = .ok (.lconst 1, 1) := by decide +kernel
theorem dX3_holds_136 : decode cX3_holds 136 = .ok (.land, 1) := by decide +kernel
theorem dX3_holds_137 : decode cX3_holds 137 = .ok (.lconst 0, 1) := by decide +kernel
theorem dX3_holds_138 : decode cX3_holds 138 = .ok (.lcmp, 1) := by decide +kernel
theorem dX3_holds_139 : decode cX3_holds 139 = .ok (.ifCond .ne 7, 3) := by decide +kernel
theorem dX3_holds_142 : decode cX3_holds 142 = .ok (.iconst 1, 1) := by decide +kernel
theorem dX3_holds_143 : decode cX3_holds 143 = .ok (.goto 4, 3) := by decide +kernel
theorem dX3_holds_146 : decode cX3_holds 146 = .ok (.iconst 0, 1) := by decide +kernel
theorem dX3_holds_147 : decode cX3_holds 147 = .ok (.ireturn, 1) := by decide +kernel
set_option maxRecDepth 20000 in
theorem ggX3_branch_X3_opOf : GoodIn wsX3_branch wsX3_opOf := goodIn_r _ [8] (by decide +kernel) (by decide +kernel)
set_option maxRecDepth 20000 in
theorem gX3_branch_X3_opOf : GoodIn wsX3_branch (va_wsS RX3 124 yX3_opOf wsX3_opOf) := goodIn_app (goodIn_of _ (by decide +kernel)) ggX3_branch_X3_opOf
set_option maxRecDepth 20000 in
theorem ggX3_branch_X3_byteX : GoodIn wsX3_branch wsX3_byteX := goodIn_r _ [11] (by decide +kernel) (by decide +kernel)
set_option maxRecDepth 20000 in
theorem gX3_branch_X3_byteX : GoodIn wsX3_branch (va_wsS RX3 143 yX3_byteX wsX3_byteX) := goodIn_app (goodIn_of _ (by decide +kernel)) ggX3_branch_X3_byteX
set_option maxRecDepth 20000 in
theorem ggX3_branch_X3_holds : GoodIn wsX3_branch wsX3_holds := goodIn_r _ [14] (by decide +kernel) (by decide +kernel)
set_option maxRecDepth 20000 in
theorem gX3_branch_X3_holds : GoodIn wsX3_branch (va_wsS RX3 250 yX3_holds wsX3_holds) := goodIn_app (goodIn_of _ (by decide +kernel)) ggX3_branch_X3_holds
set_option maxRecDepth 20000 in
theorem ggX3_branch_X3_relative : GoodIn wsX3_branch wsX3_relative := goodIn_r _ [17, 18, 19, 5, 6, 7, 8, 20, 21, 22, 23] (by decide +kernel) (by decide +kernel)
set_option maxRecDepth 20000 in
theorem gX3_branch_X3_relative : GoodIn wsX3_branch (va_wsS RX3 256 yX3_relative wsX3_relative) := goodIn_app (goodIn_of _ (by decide +kernel)) ggX3_branch_X3_relative
theorem dX3_branch_0 : decode cX3_branch 0 = .ok (.iload_n 1, 1) := by decide +kernel
theorem dX3_branch_1 : decode cX3_branch 1 = .ok (.invokestatic 124, 3) := by decide +kernel
theorem dX3_branch_4 : decode cX3_branch 4 = .ok (.istore 4, 2) := by decide +kernel
theorem dX3_branch_6 : decode cX3_branch 6 = .ok (.iload 4, 2) := by decide +kernel
theorem dX3_branch_8 : decode cX3_branch 8 = .ok (.aload_n 0, 1) := by decide +kernel
theorem dX3_branch_9 : decode cX3_branch 9 = .ok (.getfield 9, 3) := by decide +kernel
theorem dX3_branch_12 : decode cX3_branch 12 = .ok (.iload_n 1, 1) := by decide +kernel
theorem dX3_branch_13 : decode cX3_branch 13 = .ok (.invokestatic 143, 3) := by decide +kernel
theorem dX3_branch_16 : decode cX3_branch 16 = .ok (.laload, 1) := by decide +kernel
theorem dX3_branch_17 : decode cX3_branch 17 = .ok (.invokestatic 250, 3) := by decide +kernel
theorem dX3_branch_20 : decode cX3_branch 20 = .ok (.istore 5, 2) := by decide +kernel
theorem dX3_branch_22 : decode cX3_branch 22 = .ok (.iload 4, 2) := by decide +kernel
theorem dX3_branch_24 : decode cX3_branch 24 = .ok (.bipush 80, 2) := by decide +kernel
theorem dX3_branch_26 : decode cX3_branch 26 = .ok (.if_icmp .lt 7, 3) := by decide +kernel
theorem dX3_branch_29 : decode cX3_branch 29 = .ok (.iconst 1, 1) := by decide +kernel
theorem dX3_branch_30 : decode cX3_branch 30 = .ok (.goto 4, 3) := by decide +kernel
theorem dX3_branch_33 : decode cX3_branch 33 = .ok (.iconst 0, 1) := by decide +kernel
theorem dX3_branch_34 : decode cX3_branch 34 = .ok (.istore 6, 2) := by decide +kernel
theorem dX3_branch_36 : decode cX3_branch 36 = .ok (.iload 5, 2) := by decide +kernel
theorem dX3_branch_38 : decode cX3_branch 38 = .ok (.iload 6, 2) := by decide +kernel
theorem dX3_branch_40 : decode cX3_branch 40 = .ok (.if_icmp .eq 15, 3) := by decide +kernel
theorem dX3_branch_43 : decode cX3_branch 43 = .ok (.aload_n 0, 1) := by decide +kernel
theorem dX3_branch_44 : decode cX3_branch 44 = .ok (.dup, 1) := by decide +kernel
theorem dX3_branch_45 : decode cX3_branch 45 = .ok (.getfield 87, 3) := by decide +kernel
theorem dX3_branch_48 : decode cX3_branch 48 = .ok (.ldc2_w 254, 3) := by decide +kernel
theorem dX3_branch_51 : decode cX3_branch 51 = .ok (.ladd, 1) := by decide +kernel
theorem dX3_branch_52 : decode cX3_branch 52 = .ok (.putfield 87, 3) := by decide +kernel
theorem dX3_branch_55 : decode cX3_branch 55 = .ok (.iload 5, 2) := by decide +kernel
theorem dX3_branch_57 : decode cX3_branch 57 = .ok (.ifCond .eq 12, 3) := by decide +kernel
theorem dX3_branch_60 : decode cX3_branch 60 = .ok (.aload_n 0, 1) := by decide +kernel
theorem dX3_branch_61 : decode cX3_branch 61 = .ok (.iload_n 1, 1) := by decide +kernel
theorem dX3_branch_62 : decode cX3_branch 62 = .ok (.lload_n 2, 1) := by decide +kernel
theorem dX3_branch_63 : decode cX3_branch 63 = .ok (.invokestatic 256, 3) := by decide +kernel
theorem dX3_branch_66 : decode cX3_branch 66 = .ok (.putfield 73, 3) := by decide +kernel
theorem dX3_branch_69 : decode cX3_branch 69 = .ok (.return_, 1) := by decide +kernel
set_option maxRecDepth 20000 in
theorem ggX3_relative_X3_opOf : GoodIn wsX3_relative wsX3_opOf := goodIn_r _ [6] (by decide +kernel) (by decide +kernel)
set_option maxRecDepth 20000 in
theorem gX3_relative_X3_opOf : GoodIn wsX3_relative (va_wsS RX3 124 yX3_opOf wsX3_opOf) := goodIn_app (goodIn_of _ (by decide +kernel)) ggX3_relative_X3_opOf
set_option maxRecDepth 20000 in
theorem ggX3_relative_X3_wydeYZ : GoodIn wsX3_relative wsX3_wydeYZ := goodIn_r _ [9, 10] (by decide +kernel) (by decide +kernel)
set_option maxRecDepth 20000 in
theorem gX3_relative_X3_wydeYZ : GoodIn wsX3_relative (va_wsS RX3 260 yX3_wydeYZ wsX3_wydeYZ) := goodIn_app (goodIn_of _ (by decide +kernel)) ggX3_relative_X3_wydeYZ
theorem dX3_relative_0 : decode cX3_relative 0 = .ok (.iload_n 0, 1) := by decide +kernel
theorem dX3_relative_1 : decode cX3_relative 1 = .ok (.invokestatic 124, 3) := by decide +kernel
theorem dX3_relative_4 : decode cX3_relative 4 = .ok (.iconst 1, 1) := by decide +kernel
theorem dX3_relative_5 : decode cX3_relative 5 = .ok (.iand, 1) := by decide +kernel
theorem dX3_relative_6 : decode cX3_relative 6 = .ok (.iconst 1, 1) := by decide +kernel
theorem dX3_relative_7 : decode cX3_relative 7 = .ok (.if_icmp .ne 7, 3) := by decide +kernel
theorem dX3_relative_10 : decode cX3_relative 10 = .ok (.iconst 1, 1) := by decide +kernel
theorem dX3_relative_11 : decode cX3_relative 11 = .ok (.goto 4, 3) := by decide +kernel
theorem dX3_relative_14 : decode cX3_relative 14 = .ok (.iconst 0, 1) := by decide +kernel
theorem dX3_relative_15 : decode cX3_relative 15 = .ok (.istore_n 3, 1) := by decide +kernel
theorem dX3_relative_16 : decode cX3_relative 16 = .ok (.lload_n 1, 1) := by decide +kernel
theorem dX3_relative_17 : decode cX3_relative 17 = .ok (.ldc2_w 152, 3) := by decide +kernel
theorem dX3_relative_20 : decode cX3_relative 20 = .ok (.iload_n 3, 1) := by decide +kernel
theorem dX3_relative_21 : decode cX3_relative 21 = .ok (.ifCond .eq 14, 3) := by decide +kernel
theorem dX3_relative_24 : decode cX3_relative 24 = .ok (.iload_n 0, 1) := by decide +kernel
theorem dX3_relative_25 : decode cX3_relative 25 = .ok (.invokestatic 260, 3) := by decide +kernel
theorem dX3_relative_28 : decode cX3_relative 28 = .ok (.ldc_w 263, 3) := by decide +kernel
theorem dX3_relative_31 : decode cX3_relative 31 = .ok (.isub, 1) := by decide +kernel
theorem dX3_relative_32 : decode cX3_relative 32 = .ok (.goto 7, 3) := by decide +kernel
theorem dX3_relative_35 : decode cX3_relative 35 = .ok (.iload_n 0, 1) := by decide +kernel
theorem dX3_relative_36 : decode cX3_relative 36 = .ok (.invokestatic 260, 3) := by decide +kernel
theorem dX3_relative_39 : decode cX3_relative 39 = .ok (.i2l, 1) := by decide +kernel
theorem dX3_relative_40 : decode cX3_relative 40 = .ok (.lmul, 1) := by decide +kernel
theorem dX3_relative_41 : decode cX3_relative 41 = .ok (.ladd, 1) := by decide +kernel
theorem dX3_relative_42 : decode cX3_relative 42 = .ok (.lreturn, 1) := by decide +kernel
set_option maxRecDepth 20000 in
theorem ggX3_choose_X3_opOf : GoodIn wsX3_choose wsX3_opOf := goodIn_r _ [4] (by decide +kernel) (by decide +kernel)
set_option maxRecDepth 20000 in
theorem gX3_choose_X3_opOf : GoodIn wsX3_choose (va_wsS RX3 124 yX3_opOf wsX3_opOf) := goodIn_app (goodIn_of _ (by decide +kernel)) ggX3_choose_X3_opOf
set_option maxRecDepth 20000 in
theorem ggX3_choose_X3_holds : GoodIn wsX3_choose wsX3_holds := goodIn_r _ [7] (by decide +kernel) (by decide +kernel)
set_option maxRecDepth 20000 in
theorem gX3_choose_X3_holds : GoodIn wsX3_choose (va_wsS RX3 250 yX3_holds wsX3_holds) := goodIn_app (goodIn_of _ (by decide +kernel)) ggX3_choose_X3_holds
set_option maxRecDepth 20000 in
theorem ggX3_choose_X3_writeX : GoodIn wsX3_choose wsX3_writeX := goodIn_r _ [11, 12, 13, 14, 15, 16, 3, 17, 18, 19, 20, 21, 22, 23, 24, 25, 26, 27, 28, 29] (by decide +kernel) (by decide +kernel)
set_option maxRecDepth 20000 in
theorem gX3_choose_X3_writeX : GoodIn wsX3_choose (wsV RX3 162 RX3 yX3_writeX wsX3_writeX) := goodIn_app (goodIn_of _ (by decide +kernel)) ggX3_choose_X3_writeX
theorem dX3_choose_0 : decode cX3_choose 0 = .ok (.iload_n 1, 1) := by decide +kernel
theorem dX3_choose_1 : decode cX3_choose 1 = .ok (.invokestatic 124, 3) := by decide +kernel
theorem dX3_choose_4 : decode cX3_choose 4 = .ok (.bipush 112, 2) := by decide +kernel
theorem dX3_choose_6 : decode cX3_choose 6 = .ok (.if_icmp .lt 7, 3) := by decide +kernel
theorem dX3_choose_9 : decode cX3_choose 9 = .ok (.iconst 1, 1) := by decide +kernel
theorem dX3_choose_10 : decode cX3_choose 10 = .ok (.goto 4, 3) := by decide +kernel
theorem dX3_choose_13 : decode cX3_choose 13 = .ok (.iconst 0, 1) := by decide +kernel
theorem dX3_choose_14 : decode cX3_choose 14 = .ok (.istore 6, 2) := by decide +kernel
theorem dX3_choose_16 : decode cX3_choose 16 = .ok (.iload_n 1, 1) := by decide +kernel
theorem dX3_choose_17 : decode cX3_choose 17 = .ok (.invokestatic 124, 3) := by decide +kernel
theorem dX3_choose_20 : decode cX3_choose 20 = .ok (.lload_n 2, 1) := by decide +kernel
theorem dX3_choose_21 : decode cX3_choose 21 = .ok (.invokestatic 250, 3) := by decide +kernel
theorem dX3_choose_24 : decode cX3_choose 24 = .ok (.ifCond .eq 13, 3) := by decide +kernel
theorem dX3_choose_27 : decode cX3_choose 27 = .ok (.aload_n 0, 1) := by decide +kernel
theorem dX3_choose_28 : decode cX3_choose 28 = .ok (.iload_n 1, 1) := by decide +kernel
theorem dX3_choose_29 : decode cX3_choose 29 = .ok (.lload 4, 2) := by decide +kernel
theorem dX3_choose_31 : decode cX3_choose 31 = .ok (.invokevirtual 162, 3) := by decide +kernel
theorem dX3_choose_34 : decode cX3_choose 34 = .ok (.goto 14, 3) := by decide +kernel
theorem dX3_choose_37 : decode cX3_choose 37 = .ok (.iload 6, 2) := by decide +kernel
theorem dX3_choose_39 : decode cX3_choose 39 = .ok (.ifCond .eq 9, 3) := by decide +kernel
theorem dX3_choose_42 : decode cX3_choose 42 = .ok (.aload_n 0, 1) := by decide +kernel
theorem dX3_choose_43 : decode cX3_choose 43 = .ok (.iload_n 1, 1) := by decide +kernel
theorem dX3_choose_44 : decode cX3_choose 44 = .ok (.lconst 0, 1) := by decide +kernel
theorem dX3_choose_45 : decode cX3_choose 45 = .ok (.invokevirtual 162, 3) := by decide +kernel
theorem dX3_choose_48 : decode cX3_choose 48 = .ok (.return_, 1) := by decide +kernel
theorem dX3_sizeOf_0 : decode cX3_sizeOf 0 = .ok (.iconst 1, 1) := by decide +kernel
theorem dX3_sizeOf_1 : decode cX3_sizeOf 1 = .ok (.iload_n 0, 1) := by decide +kernel
theorem dX3_sizeOf_2 : decode cX3_sizeOf 2 = .ok (.iconst 2, 1) := by decide +kernel
theorem dX3_sizeOf_3 : decode cX3_sizeOf 3 = .ok (.ishr, 1) := by decide +kernel
theorem dX3_sizeOf_4 : decode cX3_sizeOf 4 = .ok (.iconst 3, 1) := by decide +kernel
theorem dX3_sizeOf_5 : decode cX3_sizeOf 5 = .ok (.iand, 1) := by decide +kernel
theorem dX3_sizeOf_6 : decode cX3_sizeOf 6 = .ok (.ishl, 1) := by decide +kernel
theorem dX3_sizeOf_7 : decode cX3_sizeOf 7 = .ok (.ireturn, 1) := by decide +kernel
theorem dX3_isUnsigned_0 : decode cX3_isUnsigned 0 = .ok (.iload_n 0, 1) := by decide +kernel
theorem dX3_isUnsigned_1 : decode cX3_isUnsigned 1 = .ok (.iconst 2, 1) := by decide +kernel
theorem dX3_isUnsigned_2 : decode cX3_isUnsigned 2 = .ok (.iand, 1) := by decide +kernel
theorem dX3_isUnsigned_3 : decode cX3_isUnsigned 3 = .ok (.ifCond .eq 7, 3) := by decide +kernel
theorem dX3_isUnsigned_6 : decode cX3_isUnsigned 6 = .ok (.iconst 1, 1) := by decide +kernel
theorem dX3_isUnsigned_7 : decode cX3_isUnsigned 7 = .ok (.goto 4, 3) := by decide +kernel
theorem dX3_isUnsigned_10 : decode cX3_isUnsigned 10 = .ok (.iconst 0, 1) := by decide +kernel
theorem dX3_isUnsigned_11 : decode cX3_isUnsigned 11 = .ok (.ireturn, 1) := by decide +kernel
set_option maxRecDepth 20000 in
theorem ggX3_loadOrGo_X3_opOf : GoodIn wsX3_loadOrGo wsX3_opOf := goodIn_r _ [8] (by decide +kernel) (by decide +kernel)
set_option maxRecDepth 20000 in
theorem gX3_loadOrGo_X3_opOf : GoodIn wsX3_loadOrGo (va_wsS RX3 124 yX3_opOf wsX3_opOf) := goodIn_app (goodIn_of _ (by decide +kernel)) ggX3_loadOrGo_X3_opOf
set_option maxRecDepth 20000 in
theorem ggX3_loadOrGo_X3_isGo : GoodIn wsX3_loadOrGo wsX3_isGo := goodIn_r _ [11] (by decide +kernel) (by decide +kernel)
set_option maxRecDepth 20000 in
theorem gX3_loadOrGo_X3_isGo : GoodIn wsX3_loadOrGo (va_wsS RX3 146 yX3_isGo wsX3_isGo) := goodIn_app (goodIn_of _ (by decide +kernel)) ggX3_loadOrGo_X3_isGo
set_option maxRecDepth 20000 in
theorem ggX3_loadOrGo_X3_writeX : GoodIn wsX3_loadOrGo wsX3_writeX := goodIn_r _ [15, 16, 17, 18, 19, 20, 7, 21, 46, 47, 48, 49, 50, 51, 52, 53, 54, 55, 56, 57] (by decide +kernel) (by decide +kernel)
set_option maxRecDepth 20000 in
theorem gX3_loadOrGo_X3_writeX : GoodIn wsX3_loadOrGo (wsV RX3 162 RX3 yX3_writeX wsX3_writeX) := goodIn_app (goodIn_of _ (by decide +kernel)) ggX3_loadOrGo_X3_writeX
set_option maxRecDepth 20000 in
theorem ggX3_loadOrGo_X0_load : GoodIn wsX3_loadOrGo wsX0_load := goodIn_r _ [25, 26, 27, 28, 23, 29, 30, 31, 32, 33, 34, 35, 36, 58] (by decide +kernel) (by decide +kernel)
set_option maxRecDepth 20000 in
theorem gX3_loadOrGo_X0_load_n46 : GoodIn wsX3_loadOrGo (wsX0_load) := ggX3_loadOrGo_X0_load
set_option maxRecDepth 20000 in
theorem ggX3_loadOrGo_X3_sizeOf : GoodIn wsX3_loadOrGo wsX3_sizeOf := goodIn_r _ [39] (by decide +kernel) (by decide +kernel)
set_option maxRecDepth 20000 in
theorem gX3_loadOrGo_X3_sizeOf : GoodIn wsX3_loadOrGo (va_wsS RX3 266 yX3_sizeOf wsX3_sizeOf) := goodIn_app (goodIn_of _ (by decide +kernel)) ggX3_loadOrGo_X3_sizeOf
set_option maxRecDepth 20000 in
theorem ggX3_loadOrGo_X3_isUnsigned : GoodIn wsX3_loadOrGo wsX3_isUnsigned := goodIn_r _ [42] (by decide +kernel) (by decide +kernel)
set_option maxRecDepth 20000 in
theorem gX3_loadOrGo_X3_isUnsigned : GoodIn wsX3_loadOrGo (va_wsS RX3 269 yX3_isUnsigned wsX3_isUnsigned) := goodIn_app (goodIn_of _ (by decide +kernel)) ggX3_loadOrGo_X3_isUnsigned
set_option maxRecDepth 20000 in
theorem ggX3_loadOrGo_X2_signed : GoodIn wsX3_loadOrGo wsX2_signed := goodIn_r _ [45] (by decide +kernel) (by decide +kernel)
set_option maxRecDepth 20000 in
theorem gX3_loadOrGo_X2_signed_n272 : GoodIn wsX3_loadOrGo (wsX2_signed) := ggX3_loadOrGo_X2_signed
theorem dX3_loadOrGo_0 : decode cX3_loadOrGo 0 = .ok (.iload_n 1, 1) := by decide +kernel
theorem dX3_loadOrGo_1 : decode cX3_loadOrGo 1 = .ok (.invokestatic 124, 3) := by decide +kernel
theorem dX3_loadOrGo_4 : decode cX3_loadOrGo 4 = .ok (.istore 6, 2) := by decide +kernel
theorem dX3_loadOrGo_6 : decode cX3_loadOrGo 6 = .ok (.iload 6, 2) := by decide +kernel
theorem dX3_loadOrGo_8 : decode cX3_loadOrGo 8 = .ok (.invokestatic 146, 3) := by decide +kernel
theorem dX3_loadOrGo_11 : decode cX3_loadOrGo 11 = .ok (.ifCond .eq 26, 3) := by decide +kernel
theorem dX3_loadOrGo_14 : decode cX3_loadOrGo 14 = .ok (.aload_n 0, 1) := by decide +kernel
theorem dX3_loadOrGo_15 : decode cX3_loadOrGo 15 = .ok (.iload_n 1, 1) := by decide +kernel
theorem dX3_loadOrGo_16 : decode cX3_loadOrGo 16 = .ok (.lload 4, 2) := by decide +kernel
theorem dX3_loadOrGo_18 : decode cX3_loadOrGo 18 = .ok (.ldc2_w 152, 3) := by decide +kernel
theorem dX3_loadOrGo_21 : decode cX3_loadOrGo 21 = .ok (.ladd, 1) := by decide +kernel
theorem dX3_loadOrGo_22 : decode cX3_loadOrGo 22 = .ok (.invokevirtual 162, 3) := by decide +kernel
theorem dX3_loadOrGo_25 : decode cX3_loadOrGo 25 = .ok (.aload_n 0, 1) := by decide +kernel
theorem dX3_loadOrGo_26 : decode cX3_loadOrGo 26 = .ok (.lload_n 2, 1) := by decide +kernel
theorem dX3_loadOrGo_27 : decode cX3_loadOrGo 27 = .ok (.ldc2_w 264, 3) := by decide +kernel
theorem dX3_loadOrGo_30 : decode cX3_loadOrGo 30 = .ok (.land, 1) := by decide +kernel
theorem dX3_loadOrGo_31 : decode cX3_loadOrGo 31 = .ok (.putfield 73, 3) := by decide +kernel
theorem dX3_loadOrGo_34 : decode cX3_loadOrGo 34 = .ok (.goto 74, 3) := by decide +kernel
theorem dX3_loadOrGo_37 : decode cX3_loadOrGo 37 = .ok (.iload 6, 2) := by decide +kernel
theorem dX3_loadOrGo_39 : decode cX3_loadOrGo 39 = .ok (.sipush 144, 3) := by decide +kernel
theorem dX3_loadOrGo_42 : decode cX3_loadOrGo 42 = .ok (.if_icmp .lt 23, 3) := by decide +kernel
theorem dX3_loadOrGo_45 : decode cX3_loadOrGo 45 = .ok (.aload_n 0, 1) := by decide +kernel
theorem dX3_loadOrGo_46 : decode cX3_loadOrGo 46 = .ok (.iload_n 1, 1) := by decide +kernel
theorem dX3_loadOrGo_47 : decode cX3_loadOrGo 47 = .ok (.aload_n 0, 1) := by decide +kernel
theorem dX3_loadOrGo_48 : decode cX3_loadOrGo 48 = .ok (.getfield 26, 3) := by decide +kernel
theorem dX3_loadOrGo_51 : decode cX3_loadOrGo 51 = .ok (.lload_n 2, 1) := by decide +kernel
theorem dX3_loadOrGo_52 : decode cX3_loadOrGo 52 = .ok (.iconst 4, 1) := by decide +kernel
theorem dX3_loadOrGo_53 : decode cX3_loadOrGo 53 = .ok (.invokevirtual 46, 3) := by decide +kernel
theorem dX3_loadOrGo_56 : decode cX3_loadOrGo 56 = .ok (.bipush 32, 2) := by decide +kernel
theorem dX3_loadOrGo_58 : decode cX3_loadOrGo 58 = .ok (.lshl, 1) := by decide +kernel
theorem dX3_loadOrGo_59 : decode cX3_loadOrGo 59 = .ok (.invokevirtual 162, 3) := by decide +kernel
theorem dX3_loadOrGo_62 : decode cX3_loadOrGo 62 = .ok (.goto 46, 3) := by decide +kernel
theorem dX3_loadOrGo_65 : decode cX3_loadOrGo 65 = .ok (.aload_n 0, 1) := by decide +kernel
theorem dX3_loadOrGo_66 : decode cX3_loadOrGo 66 = .ok (.getfield 26, 3) := by decide +kernel
theorem dX3_loadOrGo_69 : decode cX3_loadOrGo 69 = .ok (.lload_n 2, 1) := by decide +kernel
theorem dX3_loadOrGo_70 : decode cX3_loadOrGo 70 = .ok (.iload 6, 2) := by decide +kernel
theorem dX3_loadOrGo_72 : decode cX3_loadOrGo 72 = .ok (.invokestatic 266, 3) := by decide +kernel
theorem dX3_loadOrGo_75 : decode cX3_loadOrGo 75 = .ok (.invokevirtual 46, 3) := by decide +kernel
theorem dX3_loadOrGo_78 : decode cX3_loadOrGo 78 = .ok (.lstore 7, 2) := by decide +kernel
theorem dX3_loadOrGo_80 : decode cX3_loadOrGo 80 = .ok (.aload_n 0, 1) := by decide +kernel
theorem dX3_loadOrGo_81 : decode cX3_loadOrGo 81 = .ok (.iload_n 1, 1) := by decide +kernel
theorem dX3_loadOrGo_82 : decode cX3_loadOrGo 82 = .ok (.iload 6, 2) := by decide +kernel
theorem dX3_loadOrGo_84 : decode cX3_loadOrGo 84 = .ok (.invokestatic 269, 3) := by decide +kernel
theorem dX3_loadOrGo_87 : decode cX3_loadOrGo 87 = .ok (.ifCond .eq 8, 3) := by decide +kernel
theorem dX3_loadOrGo_90 : decode cX3_loadOrGo 90 = .ok (.lload 7, 2) := by decide +kernel
theorem dX3_loadOrGo_92 : decode cX3_loadOrGo 92 = .ok (.goto 13, 3) := by decide +kernel
theorem dX3_loadOrGo_95 : decode cX3_loadOrGo 95 = .ok (.lload 7, 2) := by decide +kernel
theorem dX3_loadOrGo_97 : decode cX3_loadOrGo 97 = .ok (.iload 6, 2) := by decide +kernel
theorem dX3_loadOrGo_99 : decode cX3_loadOrGo 99 = .ok (.invokestatic 266, 3) := by decide +kernel
theorem dX3_loadOrGo_102 : decode cX3_loadOrGo 102 = .ok (.invokestatic 272, 3) := by decide +kernel
theorem dX3_loadOrGo_105 : decode cX3_loadOrGo 105 = .ok (.invokevirtual 162, 3) := by decide +kernel
theorem dX3_loadOrGo_108 : decode cX3_loadOrGo 108 = .ok (.return_, 1) := by decide +kernel
set_option maxRecDepth 20000 in
theorem ggX3_storeX_X3_opOf : GoodIn wsX3_storeX wsX3_opOf := goodIn_r _ [7] (by decide +kernel) (by decide +kernel)
set_option maxRecDepth 20000 in
theorem gX3_storeX_X3_opOf : GoodIn wsX3_storeX (va_wsS RX3 124 yX3_opOf wsX3_opOf) := goodIn_app (goodIn_of _ (by decide +kernel)) ggX3_storeX_X3_opOf
set_option maxRecDepth 20000 in
theorem ggX3_storeX_X3_byteX : GoodIn wsX3_storeX wsX3_byteX := goodIn_r _ [10] (by decide +kernel) (by decide +kernel)
set_option maxRecDepth 20000 in
theorem gX3_storeX_X3_byteX : GoodIn wsX3_storeX (va_wsS RX3 143 yX3_byteX wsX3_byteX) := goodIn_app (goodIn_of _ (by decide +kernel)) ggX3_storeX_X3_byteX
set_option maxRecDepth 20000 in
theorem ggX3_storeX_X0_store : GoodIn wsX3_storeX wsX0_store := goodIn_r _ [14, 15, 16, 17, 18, 12, 19, 20, 21, 22, 23, 24, 25, 52] (by decide +kernel) (by decide +kernel)
set_option maxRecDepth 20000 in
theorem gX3_storeX_X0_store_n50 : GoodIn wsX3_storeX (wsX0_store) := ggX3_storeX_X0_store
set_option maxRecDepth 20000 in
theorem ggX3_storeX_X3_isUnsigned : GoodIn wsX3_storeX wsX3_isUnsigned := goodIn_r _ [28] (by decide +kernel) (by decide +kernel)
set_option maxRecDepth 20000 in
theorem gX3_storeX_X3_isUnsigned : GoodIn wsX3_storeX (va_wsS RX3 269 yX3_isUnsigned wsX3_isUnsigned) := goodIn_app (goodIn_of _ (by decide +kernel)) ggX3_storeX_X3_isUnsigned
set_option maxRecDepth 20000 in
theorem ggX3_storeX_X3_sizeOf : GoodIn wsX3_storeX wsX3_sizeOf := goodIn_r _ [31] (by decide +kernel) (by decide +kernel)
set_option maxRecDepth 20000 in
theorem gX3_storeX_X3_sizeOf : GoodIn wsX3_storeX (va_wsS RX3 266 yX3_sizeOf wsX3_sizeOf) := goodIn_app (goodIn_of _ (by decide +kernel)) ggX3_storeX_X3_sizeOf
set_option maxRecDepth 20000 in
theorem ggX3_storeX_X2_signed : GoodIn wsX3_storeX wsX2_signed := goodIn_r _ [34] (by decide +kernel) (by decide +kernel)
set_option maxRecDepth 20000 in
theorem gX3_storeX_X2_signed_n272 : GoodIn wsX3_storeX (wsX2_signed) := ggX3_storeX_X2_signed
set_option maxRecDepth 20000 in
theorem ggX3_storeX_X3_raise : GoodIn wsX3_storeX wsX3_raise := goodIn_r _ [38, 39, 40, 41, 42, 43, 44, 45, 46, 47, 48, 49, 50, 51] (by decide +kernel) (by decide +kernel)
set_option maxRecDepth 20000 in
theorem gX3_storeX_X3_raise : GoodIn wsX3_storeX (wsV RX3 205 RX3 yX3_raise wsX3_raise) := goodIn_app (goodIn_of _ (by decide +kernel)) ggX3_storeX_X3_raise
theorem dX3_storeX_0 : decode cX3_storeX 0 = .ok (.iload_n 1, 1) := by decide +kernel
theorem dX3_storeX_1 : decode cX3_storeX 1 = .ok (.invokestatic 124, 3) := by decide +kernel
theorem dX3_storeX_4 : decode cX3_storeX 4 = .ok (.istore 4, 2) := by decide +kernel
theorem dX3_storeX_6 : decode cX3_storeX 6 = .ok (.aload_n 0, 1) := by decide +kernel
theorem dX3_storeX_7 : decode cX3_storeX 7 = .ok (.getfield 9, 3) := by decide +kernel
theorem dX3_storeX_10 : decode cX3_storeX 10 = .ok (.iload_n 1, 1) := by decide +kernel
theorem dX3_storeX_11 : decode cX3_storeX 11 = .ok (.invokestatic 143, 3) := by decide +kernel
theorem dX3_storeX_14 : decode cX3_storeX 14 = .ok (.laload, 1) := by decide +kernel
theorem dX3_storeX_15 : decode cX3_storeX 15 = .ok (.lstore 5, 2) := by decide +kernel
theorem dX3_storeX_17 : decode cX3_storeX 17 = .ok (.iload 4, 2) := by decide +kernel
theorem dX3_storeX_19 : decode cX3_storeX 19 = .ok (.sipush 180, 3) := by decide +kernel
theorem dX3_storeX_22 : decode cX3_storeX 22 = .ok (.if_icmp .lt 21, 3) := by decide +kernel
theorem dX3_storeX_25 : decode cX3_storeX 25 = .ok (.aload_n 0, 1) := by decide +kernel
theorem dX3_storeX_26 : decode cX3_storeX 26 = .ok (.getfield 26, 3) := by decide +kernel
theorem dX3_storeX_29 : decode cX3_storeX 29 = .ok (.lload_n 2, 1) := by decide +kernel
theorem dX3_storeX_30 : decode cX3_storeX 30 = .ok (.bipush 8, 2) := by decide +kernel
theorem dX3_storeX_32 : decode cX3_storeX 32 = .ok (.iload_n 1, 1) := by decide +kernel
theorem dX3_storeX_33 : decode cX3_storeX 33 = .ok (.invokestatic 143, 3) := by decide +kernel
theorem dX3_storeX_36 : decode cX3_storeX 36 = .ok (.i2l, 1) := by decide +kernel
theorem dX3_storeX_37 : decode cX3_storeX 37 = .ok (.invokevirtual 50, 3) := by decide +kernel
theorem dX3_storeX_40 : decode cX3_storeX 40 = .ok (.goto 79, 3) := by decide +kernel
theorem dX3_storeX_43 : decode cX3_storeX 43 = .ok (.iload 4, 2) := by decide +kernel
theorem dX3_storeX_45 : decode cX3_storeX 45 = .ok (.sipush 176, 3) := by decide +kernel
theorem dX3_storeX_48 : decode cX3_storeX 48 = .ok (.if_icmp .lt 20, 3) := by decide +kernel
theorem dX3_storeX_51 : decode cX3_storeX 51 = .ok (.aload_n 0, 1) := by decide +kernel
theorem dX3_storeX_52 : decode cX3_storeX 52 = .ok (.getfield 26, 3) := by decide +kernel
theorem dX3_storeX_55 : decode cX3_storeX 55 = .ok (.lload_n 2, 1) := by decide +kernel
theorem dX3_storeX_56 : decode cX3_storeX 56 = .ok (.iconst 4, 1) := by decide +kernel
theorem dX3_storeX_57 : decode cX3_storeX 57 = .ok (.lload 5, 2) := by decide +kernel
theorem dX3_storeX_59 : decode cX3_storeX 59 = .ok (.bipush 32, 2) := by decide +kernel
theorem dX3_storeX_61 : decode cX3_storeX 61 = .ok (.lushr, 1) := by decide +kernel
theorem dX3_storeX_62 : decode cX3_storeX 62 = .ok (.invokevirtual 50, 3) := by decide +kernel
theorem dX3_storeX_65 : decode cX3_storeX 65 = .ok (.goto 54, 3) := by decide +kernel
theorem dX3_storeX_68 : decode cX3_storeX 68 = .ok (.aload_n 0, 1) := by decide +kernel
theorem dX3_storeX_69 : decode cX3_storeX 69 = .ok (.ldc2_w 199, 3) := by decide +kernel
end
section
theorem dX3_storeX_72 : decode cX3_storeX 72 = .ok (.iload 4, 2) := by decide +kernel
theorem dX3_storeX_74 : decode cX3_storeX 74 = .ok (.invokestatic 269, 3) := by decide +kernel
theorem dX3_storeX_77 : decode cX3_storeX 77 = .ok (.ifCond .ne 23, 3) := by decide +kernel
theorem dX3_storeX_80 : decode cX3_storeX 80 = .ok (.lload 5, 2) := by decide +kernel
theorem dX3_storeX_82 : decode cX3_storeX 82 = .ok (.iload 4, 2) := by decide +kernel
theorem dX3_storeX_84 : decode cX3_storeX 84 = .ok (.invokestatic 266, 3) := by decide +kernel
theorem dX3_storeX_87 : decode cX3_storeX 87 = .ok (.invokestatic 272, 3) := by decide +kernel
theorem dX3_storeX_90 : decode cX3_storeX 90 = .ok (.lload 5, 2) := by decide +kernel
theorem dX3_storeX_92 : decode cX3_storeX 92 = .ok (.lcmp, 1) := by decide +kernel
theorem dX3_storeX_93 : decode cX3_storeX 93 = .ok (.ifCond .eq 7, 3) := by decide +kernel
theorem dX3_storeX_96 : decode cX3_storeX 96 = .ok (.iconst 1, 1) := by decide +kernel
theorem dX3_storeX_97 : decode cX3_storeX 97 = .ok (.goto 4, 3) := by decide +kernel
theorem dX3_storeX_100 : decode cX3_storeX 100 = .ok (.iconst 0, 1) := by decide +kernel
theorem dX3_storeX_101 : decode cX3_storeX 101 = .ok (.invokevirtual 205, 3) := by decide +kernel
theorem dX3_storeX_104 : decode cX3_storeX 104 = .ok (.aload_n 0, 1) := by decide +kernel
theorem dX3_storeX_105 : decode cX3_storeX 105 = .ok (.getfield 26, 3) := by decide +kernel
theorem dX3_storeX_108 : decode cX3_storeX 108 = .ok (.lload_n 2, 1) := by decide +kernel
theorem dX3_storeX_109 : decode cX3_storeX 109 = .ok (.iload 4, 2) := by decide +kernel
theorem dX3_storeX_111 : decode cX3_storeX 111 = .ok (.invokestatic 266, 3) := by decide +kernel
theorem dX3_storeX_114 : decode cX3_storeX 114 = .ok (.lload 5, 2) := by decide +kernel
theorem dX3_storeX_116 : decode cX3_storeX 116 = .ok (.invokevirtual 50, 3) := by decide +kernel
theorem dX3_storeX_119 : decode cX3_storeX 119 = .ok (.return_, 1) := by decide +kernel
set_option maxRecDepth 20000 in
theorem ggX3_bytewise_X2_differences : GoodIn wsX3_bytewise wsX2_differences := goodIn_r _ [5, 6, 7, 8, 4, 9, 10] (by decide +kernel) (by decide +kernel)
set_option maxRecDepth 20000 in
theorem gX3_bytewise_X2_differences_n275 : GoodIn wsX3_bytewise (wsX2_differences) := ggX3_bytewise_X2_differences
set_option maxRecDepth 20000 in
theorem ggX3_bytewise_J13_bitCount_95d88 : GoodIn wsX3_bytewise wsJ13_bitCount_95d88 := goodIn_r _ [14, 15, 16, 17] (by decide +kernel) (by decide +kernel)
set_option maxRecDepth 20000 in
theorem gX3_bytewise_J13_bitCount_95d88 : GoodIn wsX3_bytewise (va_wsS RX3 279 yJ13_bitCount_95d88 wsJ13_bitCount_95d88) := goodIn_app (goodIn_of _ (by decide +kernel)) ggX3_bytewise_J13_bitCount_95d88
set_option maxRecDepth 20000 in
theorem ggX3_bytewise_X2_matrixProduct : GoodIn wsX3_bytewise wsX2_matrixProduct := goodIn_r _ [19, 20, 21] (by decide +kernel) (by decide +kernel)
set_option maxRecDepth 20000 in
theorem gX3_bytewise_X2_matrixProduct_n285 : GoodIn wsX3_bytewise (wsX2_matrixProduct) := ggX3_bytewise_X2_matrixProduct
theorem dX3_bytewise_0 : decode cX3_bytewise 0 = .ok (.iload_n 1, 1) := by decide +kernel
theorem dX3_bytewise_1 : decode cX3_bytewise 1 = .ok (.sipush 254, 3) := by decide +kernel
theorem dX3_bytewise_4 : decode cX3_bytewise 4 = .ok (.iand, 1) := by decide +kernel
theorem dX3_bytewise_5 : decode cX3_bytewise 5 = .ok (.tableswitch 147 208 220 #[67, 147, 76, 147, 85, 147, 94, 147, 103, 147, 126, 147, 139], 67) := by decide +kernel
theorem dX3_bytewise_72 : decode cX3_bytewise 72 = .ok (.lload_n 2, 1) := by decide +kernel
theorem dX3_bytewise_73 : decode cX3_bytewise 73 = .ok (.lload 4, 2) := by decide +kernel
theorem dX3_bytewise_75 : decode cX3_bytewise 75 = .ok (.bipush 8, 2) := by decide +kernel
theorem dX3_bytewise_77 : decode cX3_bytewise 77 = .ok (.invokestatic 275, 3) := by decide +kernel
theorem dX3_bytewise_80 : decode cX3_bytewise 80 = .ok (.lreturn, 1) := by decide +kernel
theorem dX3_bytewise_81 : decode cX3_bytewise 81 = .ok (.lload_n 2, 1) := by decide +kernel
theorem dX3_bytewise_82 : decode cX3_bytewise 82 = .ok (.lload 4, 2) := by decide +kernel
theorem dX3_bytewise_84 : decode cX3_bytewise 84 = .ok (.bipush 16, 2) := by decide +kernel
theorem dX3_bytewise_86 : decode cX3_bytewise 86 = .ok (.invokestatic 275, 3) := by decide +kernel
theorem dX3_bytewise_89 : decode cX3_bytewise 89 = .ok (.lreturn, 1) := by decide +kernel
theorem dX3_bytewise_90 : decode cX3_bytewise 90 = .ok (.lload_n 2, 1) := by decide +kernel
theorem dX3_bytewise_91 : decode cX3_bytewise 91 = .ok (.lload 4, 2) := by decide +kernel
theorem dX3_bytewise_93 : decode cX3_bytewise 93 = .ok (.bipush 32, 2) := by decide +kernel
theorem dX3_bytewise_95 : decode cX3_bytewise 95 = .ok (.invokestatic 275, 3) := by decide +kernel
theorem dX3_bytewise_98 : decode cX3_bytewise 98 = .ok (.lreturn, 1) := by decide +kernel
theorem dX3_bytewise_99 : decode cX3_bytewise 99 = .ok (.lload_n 2, 1) := by decide +kernel
theorem dX3_bytewise_100 : decode cX3_bytewise 100 = .ok (.lload 4, 2) := by decide +kernel
theorem dX3_bytewise_102 : decode cX3_bytewise 102 = .ok (.bipush 64, 2) := by decide +kernel
theorem dX3_bytewise_104 : decode cX3_bytewise 104 = .ok (.invokestatic 275, 3) := by decide +kernel
theorem dX3_bytewise_107 : decode cX3_bytewise 107 = .ok (.lreturn, 1) := by decide +kernel
theorem dX3_bytewise_108 : decode cX3_bytewise 108 = .ok (.lload_n 2, 1) := by decide +kernel
theorem dX3_bytewise_109 : decode cX3_bytewise 109 = .ok (.aload_n 0, 1) := by decide +kernel
theorem dX3_bytewise_110 : decode cX3_bytewise 110 = .ok (.getfield 13, 3) := by decide +kernel
theorem dX3_bytewise_113 : decode cX3_bytewise 113 = .ok (.iconst 5, 1) := by decide +kernel
theorem dX3_bytewise_114 : decode cX3_bytewise 114 = .ok (.laload, 1) := by decide +kernel
theorem dX3_bytewise_115 : decode cX3_bytewise 115 = .ok (.land, 1) := by decide +kernel
theorem dX3_bytewise_116 : decode cX3_bytewise 116 = .ok (.lload 4, 2) := by decide +kernel
theorem dX3_bytewise_118 : decode cX3_bytewise 118 = .ok (.aload_n 0, 1) := by decide +kernel
theorem dX3_bytewise_119 : decode cX3_bytewise 119 = .ok (.getfield 13, 3) := by decide +kernel
theorem dX3_bytewise_122 : decode cX3_bytewise 122 = .ok (.iconst 5, 1) := by decide +kernel
theorem dX3_bytewise_123 : decode cX3_bytewise 123 = .ok (.laload, 1) := by decide +kernel
theorem dX3_bytewise_124 : decode cX3_bytewise 124 = .ok (.ldc2_w 104, 3) := by decide +kernel
theorem dX3_bytewise_127 : decode cX3_bytewise 127 = .ok (.lxor, 1) := by decide +kernel
theorem dX3_bytewise_128 : decode cX3_bytewise 128 = .ok (.land, 1) := by decide +kernel
theorem dX3_bytewise_129 : decode cX3_bytewise 129 = .ok (.lor, 1) := by decide +kernel
theorem dX3_bytewise_130 : decode cX3_bytewise 130 = .ok (.lreturn, 1) := by decide +kernel
theorem dX3_bytewise_131 : decode cX3_bytewise 131 = .ok (.lload_n 2, 1) := by decide +kernel
theorem dX3_bytewise_132 : decode cX3_bytewise 132 = .ok (.lload 4, 2) := by decide +kernel
theorem dX3_bytewise_134 : decode cX3_bytewise 134 = .ok (.ldc2_w 104, 3) := by decide +kernel
theorem dX3_bytewise_137 : decode cX3_bytewise 137 = .ok (.lxor, 1) := by decide +kernel
theorem dX3_bytewise_138 : decode cX3_bytewise 138 = .ok (.land, 1) := by decide +kernel
theorem dX3_bytewise_139 : decode cX3_bytewise 139 = .ok (.invokestatic 279, 3) := by decide +kernel
theorem dX3_bytewise_142 : decode cX3_bytewise 142 = .ok (.i2l, 1) := by decide +kernel
theorem dX3_bytewise_143 : decode cX3_bytewise 143 = .ok (.lreturn, 1) := by decide +kernel
theorem dX3_bytewise_144 : decode cX3_bytewise 144 = .ok (.lload_n 2, 1) := by decide +kernel
theorem dX3_bytewise_145 : decode cX3_bytewise 145 = .ok (.lload 4, 2) := by decide +kernel
theorem dX3_bytewise_147 : decode cX3_bytewise 147 = .ok (.iconst 0, 1) := by decide +kernel
theorem dX3_bytewise_148 : decode cX3_bytewise 148 = .ok (.invokestatic 285, 3) := by decide +kernel
theorem dX3_bytewise_151 : decode cX3_bytewise 151 = .ok (.lreturn, 1) := by decide +kernel
theorem dX3_bytewise_152 : decode cX3_bytewise 152 = .ok (.lload_n 2, 1) := by decide +kernel
theorem dX3_bytewise_153 : decode cX3_bytewise 153 = .ok (.lload 4, 2) := by decide +kernel
theorem dX3_bytewise_155 : decode cX3_bytewise 155 = .ok (.iconst 1, 1) := by decide +kernel
theorem dX3_bytewise_156 : decode cX3_bytewise 156 = .ok (.invokestatic 285, 3) := by decide +kernel
theorem dX3_bytewise_159 : decode cX3_bytewise 159 = .ok (.lreturn, 1) := by decide +kernel
set_option maxRecDepth 20000 in
theorem ggX3_withWyde_X3_opOf : GoodIn wsX3_withWyde wsX3_opOf := goodIn_r _ [6] (by decide +kernel) (by decide +kernel)
set_option maxRecDepth 20000 in
theorem gX3_withWyde_X3_opOf : GoodIn wsX3_withWyde (va_wsS RX3 124 yX3_opOf wsX3_opOf) := goodIn_app (goodIn_of _ (by decide +kernel)) ggX3_withWyde_X3_opOf
set_option maxRecDepth 20000 in
theorem ggX3_withWyde_X3_byteX : GoodIn wsX3_withWyde wsX3_byteX := goodIn_r _ [9] (by decide +kernel) (by decide +kernel)
set_option maxRecDepth 20000 in
theorem gX3_withWyde_X3_byteX : GoodIn wsX3_withWyde (va_wsS RX3 143 yX3_byteX wsX3_byteX) := goodIn_app (goodIn_of _ (by decide +kernel)) ggX3_withWyde_X3_byteX
set_option maxRecDepth 20000 in
theorem ggX3_withWyde_X3_wydeYZ : GoodIn wsX3_withWyde wsX3_wydeYZ := goodIn_r _ [12, 13] (by decide +kernel) (by decide +kernel)
set_option maxRecDepth 20000 in
theorem gX3_withWyde_X3_wydeYZ : GoodIn wsX3_withWyde (va_wsS RX3 260 yX3_wydeYZ wsX3_wydeYZ) := goodIn_app (goodIn_of _ (by decide +kernel)) ggX3_withWyde_X3_wydeYZ
theorem dX3_withWyde_0 : decode cX3_withWyde 0 = .ok (.iload_n 1, 1) := by decide +kernel
theorem dX3_withWyde_1 : decode cX3_withWyde 1 = .ok (.invokestatic 124, 3) := by decide +kernel
theorem dX3_withWyde_4 : decode cX3_withWyde 4 = .ok (.istore_n 2, 1) := by decide +kernel
theorem dX3_withWyde_5 : decode cX3_withWyde 5 = .ok (.aload_n 0, 1) := by decide +kernel
theorem dX3_withWyde_6 : decode cX3_withWyde 6 = .ok (.getfield 9, 3) := by decide +kernel
theorem dX3_withWyde_9 : decode cX3_withWyde 9 = .ok (.iload_n 1, 1) := by decide +kernel
theorem dX3_withWyde_10 : decode cX3_withWyde 10 = .ok (.invokestatic 143, 3) := by decide +kernel
theorem dX3_withWyde_13 : decode cX3_withWyde 13 = .ok (.laload, 1) := by decide +kernel
theorem dX3_withWyde_14 : decode cX3_withWyde 14 = .ok (.lstore_n 3, 1) := by decide +kernel
theorem dX3_withWyde_15 : decode cX3_withWyde 15 = .ok (.iload_n 1, 1) := by decide +kernel
theorem dX3_withWyde_16 : decode cX3_withWyde 16 = .ok (.invokestatic 260, 3) := by decide +kernel
theorem dX3_withWyde_19 : decode cX3_withWyde 19 = .ok (.i2l, 1) := by decide +kernel
theorem dX3_withWyde_20 : decode cX3_withWyde 20 = .ok (.bipush 48, 2) := by decide +kernel
theorem dX3_withWyde_22 : decode cX3_withWyde 22 = .ok (.bipush 16, 2) := by decide +kernel
theorem dX3_withWyde_24 : decode cX3_withWyde 24 = .ok (.iload_n 2, 1) := by decide +kernel
theorem dX3_withWyde_25 : decode cX3_withWyde 25 = .ok (.iconst 3, 1) := by decide +kernel
theorem dX3_withWyde_26 : decode cX3_withWyde 26 = .ok (.iand, 1) := by decide +kernel
theorem dX3_withWyde_27 : decode cX3_withWyde 27 = .ok (.imul, 1) := by decide +kernel
theorem dX3_withWyde_28 : decode cX3_withWyde 28 = .ok (.isub, 1) := by decide +kernel
theorem dX3_withWyde_29 : decode cX3_withWyde 29 = .ok (.lshl, 1) := by decide +kernel
theorem dX3_withWyde_30 : decode cX3_withWyde 30 = .ok (.lstore 5, 2) := by decide +kernel
theorem dX3_withWyde_32 : decode cX3_withWyde 32 = .ok (.iload_n 2, 1) := by decide +kernel
theorem dX3_withWyde_33 : decode cX3_withWyde 33 = .ok (.iconst 2, 1) := by decide +kernel
theorem dX3_withWyde_34 : decode cX3_withWyde 34 = .ok (.ishr, 1) := by decide +kernel
theorem dX3_withWyde_35 : decode cX3_withWyde 35 = .ok (.iconst 3, 1) := by decide +kernel
theorem dX3_withWyde_36 : decode cX3_withWyde 36 = .ok (.iand, 1) := by decide +kernel
theorem dX3_withWyde_37 : decode cX3_withWyde 37 = .ok (.tableswitch 40 0 2 #[27, 30, 35], 27) := by decide +kernel
theorem dX3_withWyde_64 : decode cX3_withWyde 64 = .ok (.lload 5, 2) := by decide +kernel
theorem dX3_withWyde_66 : decode cX3_withWyde 66 = .ok (.lreturn, 1) := by decide +kernel
theorem dX3_withWyde_67 : decode cX3_withWyde 67 = .ok (.lload_n 3, 1) := by decide +kernel
theorem dX3_withWyde_68 : decode cX3_withWyde 68 = .ok (.lload 5, 2) := by decide +kernel
theorem dX3_withWyde_70 : decode cX3_withWyde 70 = .ok (.ladd, 1) := by decide +kernel
theorem dX3_withWyde_71 : decode cX3_withWyde 71 = .ok (.lreturn, 1) := by decide +kernel
theorem dX3_withWyde_72 : decode cX3_withWyde 72 = .ok (.lload_n 3, 1) := by decide +kernel
theorem dX3_withWyde_73 : decode cX3_withWyde 73 = .ok (.lload 5, 2) := by decide +kernel
theorem dX3_withWyde_75 : decode cX3_withWyde 75 = .ok (.lor, 1) := by decide +kernel
theorem dX3_withWyde_76 : decode cX3_withWyde 76 = .ok (.lreturn, 1) := by decide +kernel
theorem dX3_withWyde_77 : decode cX3_withWyde 77 = .ok (.lload_n 3, 1) := by decide +kernel
theorem dX3_withWyde_78 : decode cX3_withWyde 78 = .ok (.lload 5, 2) := by decide +kernel
theorem dX3_withWyde_80 : decode cX3_withWyde 80 = .ok (.ldc2_w 104, 3) := by decide +kernel
theorem dX3_withWyde_83 : decode cX3_withWyde 83 = .ok (.lxor, 1) := by decide +kernel
theorem dX3_withWyde_84 : decode cX3_withWyde 84 = .ok (.land, 1) := by decide +kernel
theorem dX3_withWyde_85 : decode cX3_withWyde 85 = .ok (.lreturn, 1) := by decide +kernel
set_option maxRecDepth 20000 in
theorem ggX3_performRest_X3_opOf : GoodIn wsX3_performRest wsX3_opOf := goodIn_r _ [9] (by decide +kernel) (by decide +kernel)
set_option maxRecDepth 20000 in
theorem gX3_performRest_X3_opOf : GoodIn wsX3_performRest (va_wsS RX3 124 yX3_opOf wsX3_opOf) := goodIn_app (goodIn_of _ (by decide +kernel)) ggX3_performRest_X3_opOf
set_option maxRecDepth 20000 in
theorem ggX3_performRest_X3_relative : GoodIn wsX3_performRest wsX3_relative := goodIn_r _ [12, 2, 13, 6, 7, 8, 9, 14, 15, 16, 17] (by decide +kernel) (by decide +kernel)
set_option maxRecDepth 20000 in
theorem gX3_performRest_X3_relative : GoodIn wsX3_performRest (va_wsS RX3 256 yX3_relative wsX3_relative) := goodIn_app (goodIn_of _ (by decide +kernel)) ggX3_performRest_X3_relative
set_option maxRecDepth 20000 in
theorem ggX3_performRest_X3_writeX : GoodIn wsX3_performRest wsX3_writeX := goodIn_r _ [21, 22, 23, 24, 25, 26, 8, 27, 31, 32, 33, 34, 35, 36, 37, 38, 39, 40, 41, 42] (by decide +kernel) (by decide +kernel)
set_option maxRecDepth 20000 in
theorem gX3_performRest_X3_writeX : GoodIn wsX3_performRest (wsV RX3 162 RX3 yX3_writeX wsX3_writeX) := goodIn_app (goodIn_of _ (by decide +kernel)) ggX3_performRest_X3_writeX
set_option maxRecDepth 20000 in
theorem ggX3_performRest_X3_byteX : GoodIn wsX3_performRest wsX3_byteX := goodIn_r _ [27] (by decide +kernel) (by decide +kernel)
set_option maxRecDepth 20000 in
theorem gX3_performRest_X3_byteX : GoodIn wsX3_performRest (va_wsS RX3 143 yX3_byteX wsX3_byteX) := goodIn_app (goodIn_of _ (by decide +kernel)) ggX3_performRest_X3_byteX
set_option maxRecDepth 20000 in
theorem ggX3_performRest_X3_byteZ : GoodIn wsX3_performRest wsX3_byteZ := goodIn_r _ [30] (by decide +kernel) (by decide +kernel)
set_option maxRecDepth 20000 in
theorem gX3_performRest_X3_byteZ : GoodIn wsX3_performRest (va_wsS RX3 140 yX3_byteZ wsX3_byteZ) := goodIn_app (goodIn_of _ (by decide +kernel)) ggX3_performRest_X3_byteZ
theorem dX3_performRest_0 : decode cX3_performRest 0 = .ok (.iload_n 1, 1) := by decide +kernel
theorem dX3_performRest_1 : decode cX3_performRest 1 = .ok (.ldc_w 289, 3) := by decide +kernel
theorem dX3_performRest_4 : decode cX3_performRest 4 = .ok (.iand, 1) := by decide +kernel
theorem dX3_performRest_5 : decode cX3_performRest 5 = .ok (.istore 6, 2) := by decide +kernel
theorem dX3_performRest_7 : decode cX3_performRest 7 = .ok (.iload_n 1, 1) := by decide +kernel
theorem dX3_performRest_8 : decode cX3_performRest 8 = .ok (.invokestatic 124, 3) := by decide +kernel
theorem dX3_performRest_11 : decode cX3_performRest 11 = .ok (.tableswitch 161 240 254 #[73, 90, 161, 161, 111, 111, 125, 125, 161, 161, 161, 161, 161, 161, 141], 73) := by decide +kernel
theorem dX3_performRest_84 : decode cX3_performRest 84 = .ok (.aload_n 0, 1) := by decide +kernel
theorem dX3_performRest_85 : decode cX3_performRest 85 = .ok (.lload 4, 2) := by decide +kernel
theorem dX3_performRest_87 : decode cX3_performRest 87 = .ok (.ldc2_w 152, 3) := by decide +kernel
theorem dX3_performRest_90 : decode cX3_performRest 90 = .ok (.iload 6, 2) := by decide +kernel
theorem dX3_performRest_92 : decode cX3_performRest 92 = .ok (.i2l, 1) := by decide +kernel
theorem dX3_performRest_93 : decode cX3_performRest 93 = .ok (.lmul, 1) := by decide +kernel
theorem dX3_performRest_94 : decode cX3_performRest 94 = .ok (.ladd, 1) := by decide +kernel
theorem dX3_performRest_95 : decode cX3_performRest 95 = .ok (.putfield 73, 3) := by decide +kernel
theorem dX3_performRest_98 : decode cX3_performRest 98 = .ok (.goto 74, 3) := by decide +kernel
theorem dX3_performRest_101 : decode cX3_performRest 101 = .ok (.aload_n 0, 1) := by decide +kernel
theorem dX3_performRest_102 : decode cX3_performRest 102 = .ok (.lload 4, 2) := by decide +kernel
theorem dX3_performRest_104 : decode cX3_performRest 104 = .ok (.ldc2_w 152, 3) := by decide +kernel
theorem dX3_performRest_107 : decode cX3_performRest 107 = .ok (.iload 6, 2) := by decide +kernel
theorem dX3_performRest_109 : decode cX3_performRest 109 = .ok (.ldc_w 290, 3) := by decide +kernel
theorem dX3_performRest_112 : decode cX3_performRest 112 = .ok (.isub, 1) := by decide +kernel
theorem dX3_performRest_113 : decode cX3_performRest 113 = .ok (.i2l, 1) := by decide +kernel
theorem dX3_performRest_114 : decode cX3_performRest 114 = .ok (.lmul, 1) := by decide +kernel
theorem dX3_performRest_115 : decode cX3_performRest 115 = .ok (.ladd, 1) := by decide +kernel
theorem dX3_performRest_116 : decode cX3_performRest 116 = .ok (.putfield 73, 3) := by decide +kernel
theorem dX3_performRest_119 : decode cX3_performRest 119 = .ok (.goto 53, 3) := by decide +kernel
theorem dX3_performRest_122 : decode cX3_performRest 122 = .ok (.aload_n 0, 1) := by decide +kernel
theorem dX3_performRest_123 : decode cX3_performRest 123 = .ok (.iload_n 1, 1) := by decide +kernel
theorem dX3_performRest_124 : decode cX3_performRest 124 = .ok (.iload_n 1, 1) := by decide +kernel
theorem dX3_performRest_125 : decode cX3_performRest 125 = .ok (.lload 4, 2) := by decide +kernel
theorem dX3_performRest_127 : decode cX3_performRest 127 = .ok (.invokestatic 256, 3) := by decide +kernel
theorem dX3_performRest_130 : decode cX3_performRest 130 = .ok (.invokevirtual 162, 3) := by decide +kernel
theorem dX3_performRest_133 : decode cX3_performRest 133 = .ok (.goto 39, 3) := by decide +kernel
theorem dX3_performRest_136 : decode cX3_performRest 136 = .ok (.aload_n 0, 1) := by decide +kernel
theorem dX3_performRest_137 : decode cX3_performRest 137 = .ok (.getfield 13, 3) := by decide +kernel
theorem dX3_performRest_140 : decode cX3_performRest 140 = .ok (.iload_n 1, 1) := by decide +kernel
theorem dX3_performRest_141 : decode cX3_performRest 141 = .ok (.invokestatic 143, 3) := by decide +kernel
theorem dX3_performRest_144 : decode cX3_performRest 144 = .ok (.bipush 7, 2) := by decide +kernel
theorem dX3_performRest_146 : decode cX3_performRest 146 = .ok (.iand, 1) := by decide +kernel
theorem dX3_performRest_147 : decode cX3_performRest 147 = .ok (.lload_n 2, 1) := by decide +kernel
theorem dX3_performRest_148 : decode cX3_performRest 148 = .ok (.lastore, 1) := by decide +kernel
theorem dX3_performRest_149 : decode cX3_performRest 149 = .ok (.goto 23, 3) := by decide +kernel
theorem dX3_performRest_152 : decode cX3_performRest 152 = .ok (.aload_n 0, 1) := by decide +kernel
theorem dX3_performRest_153 : decode cX3_performRest 153 = .ok (.iload_n 1, 1) := by decide +kernel
theorem dX3_performRest_154 : decode cX3_performRest 154 = .ok (.aload_n 0, 1) := by decide +kernel
theorem dX3_performRest_155 : decode cX3_performRest 155 = .ok (.getfield 13, 3) := by decide +kernel
theorem dX3_performRest_158 : decode cX3_performRest 158 = .ok (.iload_n 1, 1) := by decide +kernel
theorem dX3_performRest_159 : decode cX3_performRest 159 = .ok (.invokestatic 140, 3) := by decide +kernel
theorem dX3_performRest_162 : decode cX3_performRest 162 = .ok (.bipush 7, 2) := by decide +kernel
theorem dX3_performRest_164 : decode cX3_performRest 164 = .ok (.iand, 1) := by decide +kernel
theorem dX3_performRest_165 : decode cX3_performRest 165 = .ok (.laload, 1) := by decide +kernel
theorem dX3_performRest_166 : decode cX3_performRest 166 = .ok (.invokevirtual 162, 3) := by decide +kernel
theorem dX3_performRest_169 : decode cX3_performRest 169 = .ok (.goto 3, 3) := by decide +kernel
theorem dX3_performRest_172 : decode cX3_performRest 172 = .ok (.return_, 1) := by decide +kernel
set_option maxRecDepth 20000 in
theorem ggX4_init_X4_numbers : GoodIn wsX4_init wsX4_numbers := goodIn_r _ [18, 19, 20, 21, 22, 23, 24, 25, 26, 27, 28, 29, 30, 17, 31, 32, 33, 34, 35, 12, 36, 13, 137, 138, 139, 140, 141, 142, 143, 144, 145, 146, 147, 148, 149, 150, 151, 152, 153] (by decide +kernel) (by decide +kernel)
set_option maxRecDepth 20000 in
theorem gX4_init_X4_numbers : GoodIn wsX4_init (wsV RX4 33 RX4 yX4_numbers wsX4_numbers) := goodIn_app (goodIn_of _ (by decide +kernel)) ggX4_init_X4_numbers
set_option maxRecDepth 20000 in
theorem ggX4_init_X4_conditions : GoodIn wsX4_init wsX4_conditions := goodIn_r _ [40, 41, 42, 43, 44, 45, 46, 47, 48, 49, 50, 51, 52, 53, 54, 55, 56, 57, 58, 59, 60, 61, 62, 63, 64, 65, 66, 67, 68, 69, 70, 71, 72, 73, 28, 29, 30, 17, 31, 32, 33, 34, 35, 12, 36, 13, 137, 138, 139, 140, 141, 142, 143, 144, 145, 146, 147, 148, 149, 150, 151, 152, 153] (by decide +kernel) (by decide +kernel)
set_option maxRecDepth 20000 in
theorem gX4_init_X4_conditions : GoodIn wsX4_init (wsV RX4 36 RX4 yX4_conditions wsX4_conditions) := goodIn_app (goodIn_of _ (by decide +kernel)) ggX4_init_X4_conditions
set_option maxRecDepth 20000 in
theorem ggX4_init_X4_accesses : GoodIn wsX4_init wsX4_accesses := goodIn_r _ [77, 78, 79, 80, 81, 82, 83, 84, 85, 86, 87, 88, 89, 28, 29, 30, 17, 31, 32, 33, 34, 35, 12, 36, 13, 137, 138, 139, 140, 141, 142, 143, 144, 145, 146, 147, 148, 149, 150, 151, 152, 153] (by decide +kernel) (by decide +kernel)
set_option maxRecDepth 20000 in
theorem gX4_init_X4_accesses : GoodIn wsX4_init (wsV RX4 39 RX4 yX4_accesses wsX4_accesses) := goodIn_app (goodIn_of _ (by decide +kernel)) ggX4_init_X4_accesses
set_option maxRecDepth 20000 in
theorem ggX4_init_X4_bitNames : GoodIn wsX4_init wsX4_bitNames := goodIn_r _ [93, 94, 95, 96, 97, 98, 99, 100, 101, 28, 29, 30, 17, 31, 32, 33, 34, 35, 12, 36, 13, 137, 138, 139, 140, 141, 142, 143, 144, 145, 146, 147, 148, 149, 150, 151, 152, 153] (by decide +kernel) (by decide +kernel)
set_option maxRecDepth 20000 in
theorem gX4_init_X4_bitNames : GoodIn wsX4_init (wsV RX4 42 RX4 yX4_bitNames wsX4_bitNames) := goodIn_app (goodIn_of _ (by decide +kernel)) ggX4_init_X4_bitNames
set_option maxRecDepth 20000 in
theorem ggX4_init_X4_others : GoodIn wsX4_init wsX4_others := goodIn_r _ [105, 106, 107, 108, 109, 110, 111, 112, 113, 114, 115, 116, 117, 118, 119, 120, 121, 122, 123, 124, 125, 126, 127, 128, 129, 130, 131, 132, 133, 134, 135, 136, 32, 33, 34, 17, 35, 12, 36, 13, 28, 29, 30, 31, 137, 138, 139, 140, 141, 142, 143, 144, 145, 146, 147, 148, 149, 150, 151, 152, 153] (by decide +kernel) (by decide +kernel)
set_option maxRecDepth 20000 in
theorem gX4_init_X4_others : GoodIn wsX4_init (wsV RX4 45 RX4 yX4_others wsX4_others) := goodIn_app (goodIn_of _ (by decide +kernel)) ggX4_init_X4_others
theorem dX4_init_0 : decode cX4_init 0 = .ok (.aload_n 0, 1) := by decide +kernel
theorem dX4_init_1 : decode cX4_init 1 = .ok (.invokespecial 1, 3) := by decide +kernel
theorem dX4_init_4 : decode cX4_init 4 = .ok (.aload_n 0, 1) := by decide +kernel
theorem dX4_init_5 : decode cX4_init 5 = .ok (.sipush 256, 3) := by decide +kernel
theorem dX4_init_8 : decode cX4_init 8 = .ok (.newarray .long, 2) := by decide +kernel
theorem dX4_init_10 : decode cX4_init 10 = .ok (.putfield 7, 3) := by decide +kernel
theorem dX4_init_13 : decode cX4_init 13 = .ok (.aload_n 0, 1) := by decide +kernel
theorem dX4_init_14 : decode cX4_init 14 = .ok (.bipush 8, 2) := by decide +kernel
theorem dX4_init_16 : decode cX4_init 16 = .ok (.newarray .long, 2) := by decide +kernel
theorem dX4_init_18 : decode cX4_init 18 = .ok (.putfield 13, 3) := by decide +kernel
theorem dX4_init_21 : decode cX4_init 21 = .ok (.aload_n 0, 1) := by decide +kernel
theorem dX4_init_22 : decode cX4_init 22 = .ok (.sipush 256, 3) := by decide +kernel
theorem dX4_init_25 : decode cX4_init 25 = .ok (.newarray .long, 2) := by decide +kernel
theorem dX4_init_27 : decode cX4_init 27 = .ok (.putfield 16, 3) := by decide +kernel
theorem dX4_init_30 : decode cX4_init 30 = .ok (.aload_n 0, 1) := by decide +kernel
theorem dX4_init_31 : decode cX4_init 31 = .ok (.sipush 16384, 3) := by decide +kernel
theorem dX4_init_34 : decode cX4_init 34 = .ok (.newarray .byte, 2) := by decide +kernel
theorem dX4_init_36 : decode cX4_init 36 = .ok (.putfield 19, 3) := by decide +kernel
theorem dX4_init_39 : decode cX4_init 39 = .ok (.aload_n 0, 1) := by decide +kernel
theorem dX4_init_40 : decode cX4_init 40 = .ok (.sipush 500, 3) := by decide +kernel
theorem dX4_init_43 : decode cX4_init 43 = .ok (.newarray .byte, 2) := by decide +kernel
theorem dX4_init_45 : decode cX4_init 45 = .ok (.putfield 23, 3) := by decide +kernel
theorem dX4_init_48 : decode cX4_init 48 = .ok (.aload_n 0, 1) := by decide +kernel
theorem dX4_init_49 : decode cX4_init 49 = .ok (.sipush 400, 3) := by decide +kernel
theorem dX4_init_52 : decode cX4_init 52 = .ok (.newarray .int, 2) := by decide +kernel
theorem dX4_init_54 : decode cX4_init 54 = .ok (.putfield 26, 3) := by decide +kernel
theorem dX4_init_57 : decode cX4_init 57 = .ok (.aload_n 0, 1) := by decide +kernel
theorem dX4_init_58 : decode cX4_init 58 = .ok (.sipush 400, 3) := by decide +kernel
theorem dX4_init_61 : decode cX4_init 61 = .ok (.newarray .int, 2) := by decide +kernel
theorem dX4_init_63 : decode cX4_init 63 = .ok (.putfield 30, 3) := by decide +kernel
theorem dX4_init_66 : decode cX4_init 66 = .ok (.aload_n 0, 1) := by decide +kernel
theorem dX4_init_67 : decode cX4_init 67 = .ok (.invokevirtual 33, 3) := by decide +kernel
theorem dX4_init_70 : decode cX4_init 70 = .ok (.aload_n 0, 1) := by decide +kernel
theorem dX4_init_71 : decode cX4_init 71 = .ok (.invokevirtual 36, 3) := by decide +kernel
theorem dX4_init_74 : decode cX4_init 74 = .ok (.aload_n 0, 1) := by decide +kernel
theorem dX4_init_75 : decode cX4_init 75 = .ok (.invokevirtual 39, 3) := by decide +kernel
theorem dX4_init_78 : decode cX4_init 78 = .ok (.aload_n 0, 1) := by decide +kernel
theorem dX4_init_79 : decode cX4_init 79 = .ok (.invokevirtual 42, 3) := by decide +kernel
theorem dX4_init_82 : decode cX4_init 82 = .ok (.aload_n 0, 1) := by decide +kernel
theorem dX4_init_83 : decode cX4_init 83 = .ok (.invokevirtual 45, 3) := by decide +kernel
theorem dX4_init_86 : decode cX4_init 86 = .ok (.return_, 1) := by decide +kernel
set_option maxRecDepth 20000 in
theorem ggX4_numbers_X4_pair : GoodIn wsX4_numbers wsX4_pair := goodIn_r _ [14, 15, 16, 17, 13, 18, 19, 20, 21, 22, 23, 24, 25, 26, 27, 28, 29, 30, 31, 32, 33, 34, 35, 36, 37, 38] (by decide +kernel) (by decide +kernel)
set_option maxRecDepth 20000 in
theorem gX4_numbers_X4_pair : GoodIn wsX4_numbers (wsV RX4 48 RX4 yX4_pair wsX4_pair) := goodIn_app (goodIn_of _ (by decide +kernel)) ggX4_numbers_X4_pair
theorem dX4_numbers_0 : decode cX4_numbers 0 = .ok (.aload_n 0, 1) := by decide +kernel
theorem dX4_numbers_1 : decode cX4_numbers 1 = .ok (.sipush 10056, 3) := by decide +kernel
theorem dX4_numbers_4 : decode cX4_numbers 4 = .ok (.bipush 24, 2) := by decide +kernel
theorem dX4_numbers_6 : decode cX4_numbers 6 = .ok (.bipush 9, 2) := by decide +kernel
theorem dX4_numbers_8 : decode cX4_numbers 8 = .ok (.invokevirtual 48, 3) := by decide +kernel
theorem dX4_numbers_11 : decode cX4_numbers 11 = .ok (.aload_n 0, 1) := by decide +kernel
theorem dX4_numbers_12 : decode cX4_numbers 12 = .ok (.ldc 52, 2) := by decide +kernel
theorem dX4_numbers_14 : decode cX4_numbers 14 = .ok (.bipush 26, 2) := by decide +kernel
theorem dX4_numbers_16 : decode cX4_numbers 16 = .ok (.bipush 9, 2) := by decide +kernel
theorem dX4_numbers_18 : decode cX4_numbers 18 = .ok (.invokevirtual 48, 3) := by decide +kernel
theorem dX4_numbers_21 : decode cX4_numbers 21 = .ok (.aload_n 0, 1) := by decide +kernel
theorem dX4_numbers_22 : decode cX4_numbers 22 = .ok (.sipush 3181, 3) := by decide +kernel
theorem dX4_numbers_25 : decode cX4_numbers 25 = .ok (.bipush 28, 2) := by decide +kernel
theorem dX4_numbers_27 : decode cX4_numbers 27 = .ok (.bipush 9, 2) := by decide +kernel
theorem dX4_numbers_29 : decode cX4_numbers 29 = .ok (.invokevirtual 48, 3) := by decide +kernel
theorem dX4_numbers_32 : decode cX4_numbers 32 = .ok (.aload_n 0, 1) := by decide +kernel
theorem dX4_numbers_33 : decode cX4_numbers 33 = .ok (.ldc 53, 2) := by decide +kernel
theorem dX4_numbers_35 : decode cX4_numbers 35 = .ok (.bipush 30, 2) := by decide +kernel
theorem dX4_numbers_37 : decode cX4_numbers 37 = .ok (.bipush 9, 2) := by decide +kernel
theorem dX4_numbers_39 : decode cX4_numbers 39 = .ok (.invokevirtual 48, 3) := by decide +kernel
theorem dX4_numbers_42 : decode cX4_numbers 42 = .ok (.aload_n 0, 1) := by decide +kernel
theorem dX4_numbers_43 : decode cX4_numbers 43 = .ok (.sipush 841, 3) := by decide +kernel
theorem dX4_numbers_46 : decode cX4_numbers 46 = .ok (.bipush 32, 2) := by decide +kernel
theorem dX4_numbers_48 : decode cX4_numbers 48 = .ok (.bipush 9, 2) := by decide +kernel
theorem dX4_numbers_50 : decode cX4_numbers 50 = .ok (.invokevirtual 48, 3) := by decide +kernel
theorem dX4_numbers_53 : decode cX4_numbers 53 = .ok (.aload_n 0, 1) := by decide +kernel
theorem dX4_numbers_54 : decode cX4_numbers 54 = .ok (.sipush 22728, 3) := by decide +kernel
theorem dX4_numbers_57 : decode cX4_numbers 57 = .ok (.bipush 34, 2) := by decide +kernel
theorem dX4_numbers_59 : decode cX4_numbers 59 = .ok (.bipush 9, 2) := by decide +kernel
theorem dX4_numbers_61 : decode cX4_numbers 61 = .ok (.invokevirtual 48, 3) := by decide +kernel
theorem dX4_numbers_64 : decode cX4_numbers 64 = .ok (.aload_n 0, 1) := by decide +kernel
theorem dX4_numbers_65 : decode cX4_numbers 65 = .ok (.sipush 14420, 3) := by decide +kernel
theorem dX4_numbers_68 : decode cX4_numbers 68 = .ok (.bipush 36, 2) := by decide +kernel
theorem dX4_numbers_70 : decode cX4_numbers 70 = .ok (.bipush 9, 2) := by decide +kernel
theorem dX4_numbers_72 : decode cX4_numbers 72 = .ok (.invokevirtual 48, 3) := by decide +kernel
theorem dX4_numbers_75 : decode cX4_numbers 75 = .ok (.aload_n 0, 1) := by decide +kernel
theorem dX4_numbers_76 : decode cX4_numbers 76 = .ok (.ldc 54, 2) := by decide +kernel
theorem dX4_numbers_78 : decode cX4_numbers 78 = .ok (.bipush 38, 2) := by decide +kernel
theorem dX4_numbers_80 : decode cX4_numbers 80 = .ok (.bipush 9, 2) := by decide +kernel
theorem dX4_numbers_82 : decode cX4_numbers 82 = .ok (.invokevirtual 48, 3) := by decide +kernel
theorem dX4_numbers_85 : decode cX4_numbers 85 = .ok (.aload_n 0, 1) := by decide +kernel
theorem dX4_numbers_86 : decode cX4_numbers 86 = .ok (.ldc 55, 2) := by decide +kernel
theorem dX4_numbers_88 : decode cX4_numbers 88 = .ok (.bipush 40, 2) := by decide +kernel
theorem dX4_numbers_90 : decode cX4_numbers 90 = .ok (.bipush 9, 2) := by decide +kernel
theorem dX4_numbers_92 : decode cX4_numbers 92 = .ok (.invokevirtual 48, 3) := by decide +kernel
theorem dX4_numbers_95 : decode cX4_numbers 95 = .ok (.aload_n 0, 1) := by decide +kernel
theorem dX4_numbers_96 : decode cX4_numbers 96 = .ok (.ldc 56, 2) := by decide +kernel
theorem dX4_numbers_98 : decode cX4_numbers 98 = .ok (.bipush 42, 2) := by decide +kernel
theorem dX4_numbers_100 : decode cX4_numbers 100 = .ok (.bipush 9, 2) := by decide +kernel
theorem dX4_numbers_102 : decode cX4_numbers 102 = .ok (.invokevirtual 48, 3) := by decide +kernel
theorem dX4_numbers_105 : decode cX4_numbers 105 = .ok (.aload_n 0, 1) := by decide +kernel
theorem dX4_numbers_106 : decode cX4_numbers 106 = .ok (.ldc 57, 2) := by decide +kernel
theorem dX4_numbers_108 : decode cX4_numbers 108 = .ok (.bipush 44, 2) := by decide +kernel
theorem dX4_numbers_110 : decode cX4_numbers 110 = .ok (.bipush 9, 2) := by decide +kernel
theorem dX4_numbers_112 : decode cX4_numbers 112 = .ok (.invokevirtual 48, 3) := by decide +kernel
theorem dX4_numbers_115 : decode cX4_numbers 115 = .ok (.aload_n 0, 1) := by decide +kernel
theorem dX4_numbers_116 : decode cX4_numbers 116 = .ok (.ldc 58, 2) := by decide +kernel
theorem dX4_numbers_118 : decode cX4_numbers 118 = .ok (.bipush 46, 2) := by decide +kernel
theorem dX4_numbers_120 : decode cX4_numbers 120 = .ok (.bipush 9, 2) := by decide +kernel
theorem dX4_numbers_122 : decode cX4_numbers 122 = .ok (.invokevirtual 48, 3) := by decide +kernel
theorem dX4_numbers_125 : decode cX4_numbers 125 = .ok (.aload_n 0, 1) := by decide +kernel
theorem dX4_numbers_126 : decode cX4_numbers 126 = .ok (.sipush 2554, 3) := by decide +kernel
theorem dX4_numbers_129 : decode cX4_numbers 129 = .ok (.bipush 48, 2) := by decide +kernel
theorem dX4_numbers_131 : decode cX4_numbers 131 = .ok (.bipush 9, 2) := by decide +kernel
theorem dX4_numbers_133 : decode cX4_numbers 133 = .ok (.invokevirtual 48, 3) := by decide +kernel
theorem dX4_numbers_136 : decode cX4_numbers 136 = .ok (.aload_n 0, 1) := by decide +kernel
theorem dX4_numbers_137 : decode cX4_numbers 137 = .ok (.ldc 59, 2) := by decide +kernel
theorem dX4_numbers_139 : decode cX4_numbers 139 = .ok (.bipush 50, 2) := by decide +kernel
theorem dX4_numbers_141 : decode cX4_numbers 141 = .ok (.bipush 9, 2) := by decide +kernel
theorem dX4_numbers_143 : decode cX4_numbers 143 = .ok (.invokevirtual 48, 3) := by decide +kernel
theorem dX4_numbers_146 : decode cX4_numbers 146 = .ok (.aload_n 0, 1) := by decide +kernel
theorem dX4_numbers_147 : decode cX4_numbers 147 = .ok (.sipush 10348, 3) := by decide +kernel
theorem dX4_numbers_150 : decode cX4_numbers 150 = .ok (.bipush 52, 2) := by decide +kernel
theorem dX4_numbers_152 : decode cX4_numbers 152 = .ok (.bipush 9, 2) := by decide +kernel
theorem dX4_numbers_154 : decode cX4_numbers 154 = .ok (.invokevirtual 48, 3) := by decide +kernel
theorem dX4_numbers_157 : decode cX4_numbers 157 = .ok (.aload_n 0, 1) := by decide +kernel
theorem dX4_numbers_158 : decode cX4_numbers 158 = .ok (.ldc 60, 2) := by decide +kernel
theorem dX4_numbers_160 : decode cX4_numbers 160 = .ok (.bipush 54, 2) := by decide +kernel
theorem dX4_numbers_162 : decode cX4_numbers 162 = .ok (.bipush 9, 2) := by decide +kernel
theorem dX4_numbers_164 : decode cX4_numbers 164 = .ok (.invokevirtual 48, 3) := by decide +kernel
theorem dX4_numbers_167 : decode cX4_numbers 167 = .ok (.aload_n 0, 1) := by decide +kernel
theorem dX4_numbers_168 : decode cX4_numbers 168 = .ok (.sipush 525, 3) := by decide +kernel
theorem dX4_numbers_171 : decode cX4_numbers 171 = .ok (.bipush 56, 2) := by decide +kernel
theorem dX4_numbers_173 : decode cX4_numbers 173 = .ok (.bipush 9, 2) := by decide +kernel
theorem dX4_numbers_175 : decode cX4_numbers 175 = .ok (.invokevirtual 48, 3) := by decide +kernel
theorem dX4_numbers_178 : decode cX4_numbers 178 = .ok (.aload_n 0, 1) := by decide +kernel
theorem dX4_numbers_179 : decode cX4_numbers 179 = .ok (.sipush 14196, 3) := by decide +kernel
theorem dX4_numbers_182 : decode cX4_numbers 182 = .ok (.bipush 58, 2) := by decide +kernel
theorem dX4_numbers_184 : decode cX4_numbers 184 = .ok (.bipush 9, 2) := by decide +kernel
theorem dX4_numbers_186 : decode cX4_numbers 186 = .ok (.invokevirtual 48, 3) := by decide +kernel
theorem dX4_numbers_189 : decode cX4_numbers 189 = .ok (.aload_n 0, 1) := by decide +kernel
theorem dX4_numbers_190 : decode cX4_numbers 190 = .ok (.sipush 531, 3) := by decide +kernel
theorem dX4_numbers_193 : decode cX4_numbers 193 = .ok (.bipush 60, 2) := by decide +kernel
theorem dX4_numbers_195 : decode cX4_numbers 195 = .ok (.bipush 9, 2) := by decide +kernel
theorem dX4_numbers_197 : decode cX4_numbers 197 = .ok (.invokevirtual 48, 3) := by decide +kernel
theorem dX4_numbers_200 : decode cX4_numbers 200 = .ok (.aload_n 0, 1) := by decide +kernel
theorem dX4_numbers_201 : decode cX4_numbers 201 = .ok (.sipush 14358, 3) := by decide +kernel
theorem dX4_numbers_204 : decode cX4_numbers 204 = .ok (.bipush 62, 2) := by decide +kernel
theorem dX4_numbers_206 : decode cX4_numbers 206 = .ok (.bipush 9, 2) := by decide +kernel
theorem dX4_numbers_208 : decode cX4_numbers 208 = .ok (.invokevirtual 48, 3) := by decide +kernel
theorem dX4_numbers_211 : decode cX4_numbers 211 = .ok (.return_, 1) := by decide +kernel
set_option maxRecDepth 20000 in
theorem ggX4_conditions_X4_pair : GoodIn wsX4_conditions wsX4_pair := goodIn_r _ [38, 39, 40, 41, 37, 42, 43, 44, 45, 46, 47, 48, 49, 50, 51, 52, 53, 54, 55, 56, 57, 58, 59, 60, 61, 62] (by decide +kernel) (by decide +kernel)
set_option maxRecDepth 20000 in
theorem gX4_conditions_X4_pair : GoodIn wsX4_conditions (wsV RX4 48 RX4 yX4_pair wsX4_pair) := goodIn_app (goodIn_of _ (by decide +kernel)) ggX4_conditions_X4_pair
theorem dX4_conditions_0 : decode cX4_conditions 0 = .ok (.aload_n 0, 1) := by decide +kernel
theorem dX4_conditions_1 : decode cX4_conditions 1 = .ok (.bipush 68, 2) := by decide +kernel
theorem dX4_conditions_3 : decode cX4_conditions 3 = .ok (.bipush 64, 2) := by decide +kernel
theorem dX4_conditions_5 : decode cX4_conditions 5 = .ok (.iconst 2, 1) := by decide +kernel
theorem dX4_conditions_6 : decode cX4_conditions 6 = .ok (.invokevirtual 48, 3) := by decide +kernel
theorem dX4_conditions_9 : decode cX4_conditions 9 = .ok (.aload_n 0, 1) := by decide +kernel
theorem dX4_conditions_10 : decode cX4_conditions 10 = .ok (.bipush 80, 2) := by decide +kernel
theorem dX4_conditions_12 : decode cX4_conditions 12 = .ok (.bipush 66, 2) := by decide +kernel
theorem dX4_conditions_14 : decode cX4_conditions 14 = .ok (.iconst 2, 1) := by decide +kernel
theorem dX4_conditions_15 : decode cX4_conditions 15 = .ok (.invokevirtual 48, 3) := by decide +kernel
theorem dX4_conditions_18 : decode cX4_conditions 18 = .ok (.aload_n 0, 1) := by decide +kernel
theorem dX4_conditions_19 : decode cX4_conditions 19 = .ok (.bipush 70, 2) := by decide +kernel
theorem dX4_conditions_21 : decode cX4_conditions 21 = .ok (.bipush 68, 2) := by decide +kernel
theorem dX4_conditions_23 : decode cX4_conditions 23 = .ok (.iconst 2, 1) := by decide +kernel
theorem dX4_conditions_24 : decode cX4_conditions 24 = .ok (.invokevirtual 48, 3) := by decide +kernel
theorem dX4_conditions_27 : decode cX4_conditions 27 = .ok (.aload_n 0, 1) := by decide +kernel
theorem dX4_conditions_28 : decode cX4_conditions 28 = .ok (.sipush 1867, 3) := by decide +kernel
theorem dX4_conditions_31 : decode cX4_conditions 31 = .ok (.bipush 70, 2) := by decide +kernel
theorem dX4_conditions_33 : decode cX4_conditions 33 = .ok (.iconst 2, 1) := by decide +kernel
theorem dX4_conditions_34 : decode cX4_conditions 34 = .ok (.invokevirtual 48, 3) := by decide +kernel
theorem dX4_conditions_37 : decode cX4_conditions 37 = .ok (.aload_n 0, 1) := by decide +kernel
theorem dX4_conditions_38 : decode cX4_conditions 38 = .ok (.sipush 1850, 3) := by decide +kernel
theorem dX4_conditions_41 : decode cX4_conditions 41 = .ok (.bipush 72, 2) := by decide +kernel
theorem dX4_conditions_43 : decode cX4_conditions 43 = .ok (.iconst 2, 1) := by decide +kernel
theorem dX4_conditions_44 : decode cX4_conditions 44 = .ok (.invokevirtual 48, 3) := by decide +kernel
theorem dX4_conditions_47 : decode cX4_conditions 47 = .ok (.aload_n 0, 1) := by decide +kernel
theorem dX4_conditions_48 : decode cX4_conditions 48 = .ok (.sipush 1862, 3) := by decide +kernel
theorem dX4_conditions_51 : decode cX4_conditions 51 = .ok (.bipush 74, 2) := by decide +kernel
theorem dX4_conditions_53 : decode cX4_conditions 53 = .ok (.iconst 2, 1) := by decide +kernel
theorem dX4_conditions_54 : decode cX4_conditions 54 = .ok (.invokevirtual 48, 3) := by decide +kernel
theorem dX4_conditions_57 : decode cX4_conditions 57 = .ok (.aload_n 0, 1) := by decide +kernel
theorem dX4_conditions_58 : decode cX4_conditions 58 = .ok (.sipush 1852, 3) := by decide +kernel
theorem dX4_conditions_61 : decode cX4_conditions 61 = .ok (.bipush 76, 2) := by decide +kernel
theorem dX4_conditions_63 : decode cX4_conditions 63 = .ok (.iconst 2, 1) := by decide +kernel
theorem dX4_conditions_64 : decode cX4_conditions 64 = .ok (.invokevirtual 48, 3) := by decide +kernel
theorem dX4_conditions_67 : decode cX4_conditions 67 = .ok (.aload_n 0, 1) := by decide +kernel
theorem dX4_conditions_68 : decode cX4_conditions 68 = .ok (.sipush 1615, 3) := by decide +kernel
theorem dX4_conditions_71 : decode cX4_conditions 71 = .ok (.bipush 78, 2) := by decide +kernel
theorem dX4_conditions_73 : decode cX4_conditions 73 = .ok (.iconst 2, 1) := by decide +kernel
theorem dX4_conditions_74 : decode cX4_conditions 74 = .ok (.invokevirtual 48, 3) := by decide +kernel
theorem dX4_conditions_77 : decode cX4_conditions 77 = .ok (.aload_n 0, 1) := by decide +kernel
theorem dX4_conditions_78 : decode cX4_conditions 78 = .ok (.sipush 1802, 3) := by decide +kernel
theorem dX4_conditions_81 : decode cX4_conditions 81 = .ok (.bipush 64, 2) := by decide +kernel
theorem dX4_conditions_83 : decode cX4_conditions 83 = .ok (.iconst 2, 1) := by decide +kernel
theorem dX4_conditions_84 : decode cX4_conditions 84 = .ok (.invokevirtual 48, 3) := by decide +kernel
theorem dX4_conditions_87 : decode cX4_conditions 87 = .ok (.aload_n 0, 1) := by decide +kernel
theorem dX4_conditions_88 : decode cX4_conditions 88 = .ok (.sipush 1610, 3) := by decide +kernel
theorem dX4_conditions_91 : decode cX4_conditions 91 = .ok (.bipush 66, 2) := by decide +kernel
theorem dX4_conditions_93 : decode cX4_conditions 93 = .ok (.iconst 2, 1) := by decide +kernel
theorem dX4_conditions_94 : decode cX4_conditions 94 = .ok (.invokevirtual 48, 3) := by decide +kernel
theorem dX4_conditions_97 : decode cX4_conditions 97 = .ok (.aload_n 0, 1) := by decide +kernel
theorem dX4_conditions_98 : decode cX4_conditions 98 = .ok (.sipush 1667, 3) := by decide +kernel
theorem dX4_conditions_101 : decode cX4_conditions 101 = .ok (.bipush 68, 2) := by decide +kernel
theorem dX4_conditions_103 : decode cX4_conditions 103 = .ok (.iconst 2, 1) := by decide +kernel
theorem dX4_conditions_104 : decode cX4_conditions 104 = .ok (.invokevirtual 48, 3) := by decide +kernel
theorem dX4_conditions_107 : decode cX4_conditions 107 = .ok (.aload_n 0, 1) := by decide +kernel
theorem dX4_conditions_108 : decode cX4_conditions 108 = .ok (.sipush 1652, 3) := by decide +kernel
theorem dX4_conditions_111 : decode cX4_conditions 111 = .ok (.bipush 72, 2) := by decide +kernel
theorem dX4_conditions_113 : decode cX4_conditions 113 = .ok (.iconst 2, 1) := by decide +kernel
theorem dX4_conditions_114 : decode cX4_conditions 114 = .ok (.invokevirtual 48, 3) := by decide +kernel
theorem dX4_conditions_117 : decode cX4_conditions 117 = .ok (.aload_n 0, 1) := by decide +kernel
theorem dX4_conditions_118 : decode cX4_conditions 118 = .ok (.sipush 1841, 3) := by decide +kernel
theorem dX4_conditions_121 : decode cX4_conditions 121 = .ok (.bipush 74, 2) := by decide +kernel
theorem dX4_conditions_123 : decode cX4_conditions 123 = .ok (.iconst 2, 1) := by decide +kernel
theorem dX4_conditions_124 : decode cX4_conditions 124 = .ok (.invokevirtual 48, 3) := by decide +kernel
theorem dX4_conditions_127 : decode cX4_conditions 127 = .ok (.aload_n 0, 1) := by decide +kernel
theorem dX4_conditions_128 : decode cX4_conditions 128 = .ok (.sipush 1787, 3) := by decide +kernel
theorem dX4_conditions_131 : decode cX4_conditions 131 = .ok (.bipush 76, 2) := by decide +kernel
theorem dX4_conditions_133 : decode cX4_conditions 133 = .ok (.iconst 2, 1) := by decide +kernel
theorem dX4_conditions_134 : decode cX4_conditions 134 = .ok (.invokevirtual 48, 3) := by decide +kernel
theorem dX4_conditions_137 : decode cX4_conditions 137 = .ok (.aload_n 0, 1) := by decide +kernel
theorem dX4_conditions_138 : decode cX4_conditions 138 = .ok (.sipush 11732, 3) := by decide +kernel
theorem dX4_conditions_141 : decode cX4_conditions 141 = .ok (.bipush 80, 2) := by decide +kernel
theorem dX4_conditions_143 : decode cX4_conditions 143 = .ok (.iconst 2, 1) := by decide +kernel
theorem dX4_conditions_144 : decode cX4_conditions 144 = .ok (.invokevirtual 48, 3) := by decide +kernel
theorem dX4_conditions_147 : decode cX4_conditions 147 = .ok (.aload_n 0, 1) := by decide +kernel
theorem dX4_conditions_148 : decode cX4_conditions 148 = .ok (.sipush 11744, 3) := by decide +kernel
theorem dX4_conditions_151 : decode cX4_conditions 151 = .ok (.bipush 82, 2) := by decide +kernel
theorem dX4_conditions_153 : decode cX4_conditions 153 = .ok (.iconst 2, 1) := by decide +kernel
theorem dX4_conditions_154 : decode cX4_conditions 154 = .ok (.invokevirtual 48, 3) := by decide +kernel
theorem dX4_conditions_157 : decode cX4_conditions 157 = .ok (.aload_n 0, 1) := by decide +kernel
theorem dX4_conditions_158 : decode cX4_conditions 158 = .ok (.sipush 11734, 3) := by decide +kernel
theorem dX4_conditions_161 : decode cX4_conditions 161 = .ok (.bipush 84, 2) := by decide +kernel
theorem dX4_conditions_163 : decode cX4_conditions 163 = .ok (.iconst 2, 1) := by decide +kernel
theorem dX4_conditions_164 : decode cX4_conditions 164 = .ok (.invokevirtual 48, 3) := by decide +kernel
theorem dX4_conditions_167 : decode cX4_conditions 167 = .ok (.aload_n 0, 1) := by decide +kernel
theorem dX4_conditions_168 : decode cX4_conditions 168 = .ok (.ldc 61, 2) := by decide +kernel
theorem dX4_conditions_170 : decode cX4_conditions 170 = .ok (.bipush 86, 2) := by decide +kernel
theorem dX4_conditions_172 : decode cX4_conditions 172 = .ok (.iconst 2, 1) := by decide +kernel
theorem dX4_conditions_173 : decode cX4_conditions 173 = .ok (.invokevirtual 48, 3) := by decide +kernel
theorem dX4_conditions_176 : decode cX4_conditions 176 = .ok (.aload_n 0, 1) := by decide +kernel
theorem dX4_conditions_177 : decode cX4_conditions 177 = .ok (.ldc 62, 2) := by decide +kernel
theorem dX4_conditions_179 : decode cX4_conditions 179 = .ok (.bipush 88, 2) := by decide +kernel
theorem dX4_conditions_181 : decode cX4_conditions 181 = .ok (.iconst 2, 1) := by decide +kernel
theorem dX4_conditions_182 : decode cX4_conditions 182 = .ok (.invokevirtual 48, 3) := by decide +kernel
theorem dX4_conditions_185 : decode cX4_conditions 185 = .ok (.aload_n 0, 1) := by decide +kernel
theorem dX4_conditions_186 : decode cX4_conditions 186 = .ok (.ldc 63, 2) := by decide +kernel
theorem dX4_conditions_188 : decode cX4_conditions 188 = .ok (.bipush 90, 2) := by decide +kernel
theorem dX4_conditions_190 : decode cX4_conditions 190 = .ok (.iconst 2, 1) := by decide +kernel
theorem dX4_conditions_191 : decode cX4_conditions 191 = .ok (.invokevirtual 48, 3) := by decide +kernel
theorem dX4_conditions_194 : decode cX4_conditions 194 = .ok (.aload_n 0, 1) := by decide +kernel
theorem dX4_conditions_195 : decode cX4_conditions 195 = .ok (.ldc 64, 2) := by decide +kernel
theorem dX4_conditions_197 : decode cX4_conditions 197 = .ok (.bipush 92, 2) := by decide +kernel
theorem dX4_conditions_199 : decode cX4_conditions 199 = .ok (.iconst 2, 1) := by decide +kernel
theorem dX4_conditions_200 : decode cX4_conditions 200 = .ok (.invokevirtual 48, 3) := by decide +kernel
theorem dX4_conditions_203 : decode cX4_conditions 203 = .ok (.aload_n 0, 1) := by decide +kernel
theorem dX4_conditions_204 : decode cX4_conditions 204 = .ok (.ldc 65, 2) := by decide +kernel
theorem dX4_conditions_206 : decode cX4_conditions 206 = .ok (.bipush 94, 2) := by decide +kernel
theorem dX4_conditions_208 : decode cX4_conditions 208 = .ok (.iconst 2, 1) := by decide +kernel
theorem dX4_conditions_209 : decode cX4_conditions 209 = .ok (.invokevirtual 48, 3) := by decide +kernel
theorem dX4_conditions_212 : decode cX4_conditions 212 = .ok (.aload_n 0, 1) := by decide +kernel
theorem dX4_conditions_213 : decode cX4_conditions 213 = .ok (.ldc 66, 2) := by decide +kernel
theorem dX4_conditions_215 : decode cX4_conditions 215 = .ok (.bipush 80, 2) := by decide +kernel
theorem dX4_conditions_217 : decode cX4_conditions 217 = .ok (.iconst 2, 1) := by decide +kernel
theorem dX4_conditions_218 : decode cX4_conditions 218 = .ok (.invokevirtual 48, 3) := by decide +kernel
theorem dX4_conditions_221 : decode cX4_conditions 221 = .ok (.aload_n 0, 1) := by decide +kernel
theorem dX4_conditions_222 : decode cX4_conditions 222 = .ok (.ldc 67, 2) := by decide +kernel
theorem dX4_conditions_224 : decode cX4_conditions 224 = .ok (.bipush 82, 2) := by decide +kernel
theorem dX4_conditions_226 : decode cX4_conditions 226 = .ok (.iconst 2, 1) := by decide +kernel
theorem dX4_conditions_227 : decode cX4_conditions 227 = .ok (.invokevirtual 48, 3) := by decide +kernel
theorem dX4_conditions_230 : decode cX4_conditions 230 = .ok (.aload_n 0, 1) := by decide +kernel
theorem dX4_conditions_231 : decode cX4_conditions 231 = .ok (.ldc 68, 2) := by decide +kernel
theorem dX4_conditions_233 : decode cX4_conditions 233 = .ok (.bipush 84, 2) := by decide +kernel
theorem dX4_conditions_235 : decode cX4_conditions 235 = .ok (.iconst 2, 1) := by decide +kernel
theorem dX4_conditions_236 : decode cX4_conditions 236 = .ok (.invokevirtual 48, 3) := by decide +kernel
theorem dX4_conditions_239 : decode cX4_conditions 239 = .ok (.aload_n 0, 1) := by decide +kernel
theorem dX4_conditions_240 : decode cX4_conditions 240 = .ok (.ldc 69, 2) := by decide +kernel
theorem dX4_conditions_242 : decode cX4_conditions 242 = .ok (.bipush 88, 2) := by decide +kernel
theorem dX4_conditions_244 : decode cX4_conditions 244 = .ok (.iconst 2, 1) := by decide +kernel
theorem dX4_conditions_245 : decode cX4_conditions 245 = .ok (.invokevirtual 48, 3) := by decide +kernel
theorem dX4_conditions_248 : decode cX4_conditions 248 = .ok (.aload_n 0, 1) := by decide +kernel
theorem dX4_conditions_249 : decode cX4_conditions 249 = .ok (.ldc 70, 2) := by decide +kernel
theorem dX4_conditions_251 : decode cX4_conditions 251 = .ok (.bipush 90, 2) := by decide +kernel
theorem dX4_conditions_253 : decode cX4_conditions 253 = .ok (.iconst 2, 1) := by decide +kernel
theorem dX4_conditions_254 : decode cX4_conditions 254 = .ok (.invokevirtual 48, 3) := by decide +kernel
theorem dX4_conditions_257 : decode cX4_conditions 257 = .ok (.aload_n 0, 1) := by decide +kernel
theorem dX4_conditions_258 : decode cX4_conditions 258 = .ok (.ldc 71, 2) := by decide +kernel
theorem dX4_conditions_260 : decode cX4_conditions 260 = .ok (.bipush 92, 2) := by decide +kernel
theorem dX4_conditions_262 : decode cX4_conditions 262 = .ok (.iconst 2, 1) := by decide +kernel
theorem dX4_conditions_263 : decode cX4_conditions 263 = .ok (.invokevirtual 48, 3) := by decide +kernel
theorem dX4_conditions_266 : decode cX4_conditions 266 = .ok (.aload_n 0, 1) := by decide +kernel
theorem dX4_conditions_267 : decode cX4_conditions 267 = .ok (.sipush 2714, 3) := by decide +kernel
theorem dX4_conditions_270 : decode cX4_conditions 270 = .ok (.bipush 96, 2) := by decide +kernel
theorem dX4_conditions_272 : decode cX4_conditions 272 = .ok (.bipush 9, 2) := by decide +kernel
theorem dX4_conditions_274 : decode cX4_conditions 274 = .ok (.invokevirtual 48, 3) := by decide +kernel
theorem dX4_conditions_277 : decode cX4_conditions 277 = .ok (.aload_n 0, 1) := by decide +kernel
theorem dX4_conditions_278 : decode cX4_conditions 278 = .ok (.sipush 2726, 3) := by decide +kernel
theorem dX4_conditions_281 : decode cX4_conditions 281 = .ok (.bipush 98, 2) := by decide +kernel
theorem dX4_conditions_283 : decode cX4_conditions 283 = .ok (.bipush 9, 2) := by decide +kernel
theorem dX4_conditions_285 : decode cX4_conditions 285 = .ok (.invokevirtual 48, 3) := by decide +kernel
theorem dX4_conditions_288 : decode cX4_conditions 288 = .ok (.aload_n 0, 1) := by decide +kernel
theorem dX4_conditions_289 : decode cX4_conditions 289 = .ok (.sipush 2716, 3) := by decide +kernel
theorem dX4_conditions_292 : decode cX4_conditions 292 = .ok (.bipush 100, 2) := by decide +kernel
theorem dX4_conditions_294 : decode cX4_conditions 294 = .ok (.bipush 9, 2) := by decide +kernel
theorem dX4_conditions_296 : decode cX4_conditions 296 = .ok (.invokevirtual 48, 3) := by decide +kernel
theorem dX4_conditions_299 : decode cX4_conditions 299 = .ok (.aload_n 0, 1) := by decide +kernel
theorem dX4_conditions_300 : decode cX4_conditions 300 = .ok (.ldc 72, 2) := by decide +kernel
theorem dX4_conditions_302 : decode cX4_conditions 302 = .ok (.bipush 102, 2) := by decide +kernel
theorem dX4_conditions_304 : decode cX4_conditions 304 = .ok (.bipush 9, 2) := by decide +kernel
theorem dX4_conditions_306 : decode cX4_conditions 306 = .ok (.invokevirtual 48, 3) := by decide +kernel
theorem dX4_conditions_309 : decode cX4_conditions 309 = .ok (.aload_n 0, 1) := by decide +kernel
theorem dX4_conditions_310 : decode cX4_conditions 310 = .ok (.ldc 73, 2) := by decide +kernel
theorem dX4_conditions_312 : decode cX4_conditions 312 = .ok (.bipush 104, 2) := by decide +kernel
theorem dX4_conditions_314 : decode cX4_conditions 314 = .ok (.bipush 9, 2) := by decide +kernel
theorem dX4_conditions_316 : decode cX4_conditions 316 = .ok (.invokevirtual 48, 3) := by decide +kernel
theorem dX4_conditions_319 : decode cX4_conditions 319 = .ok (.aload_n 0, 1) := by decide +kernel
theorem dX4_conditions_320 : decode cX4_conditions 320 = .ok (.ldc 74, 2) := by decide +kernel
theorem dX4_conditions_322 : decode cX4_conditions 322 = .ok (.bipush 106, 2) := by decide +kernel
theorem dX4_conditions_324 : decode cX4_conditions 324 = .ok (.bipush 9, 2) := by decide +kernel
theorem dX4_conditions_326 : decode cX4_conditions 326 = .ok (.invokevirtual 48, 3) := by decide +kernel
theorem dX4_conditions_329 : decode cX4_conditions 329 = .ok (.aload_n 0, 1) := by decide +kernel
theorem dX4_conditions_330 : decode cX4_conditions 330 = .ok (.ldc 75, 2) := by decide +kernel
theorem dX4_conditions_332 : decode cX4_conditions 332 = .ok (.bipush 108, 2) := by decide +kernel
theorem dX4_conditions_334 : decode cX4_conditions 334 = .ok (.bipush 9, 2) := by decide +kernel
theorem dX4_conditions_336 : decode cX4_conditions 336 = .ok (.invokevirtual 48, 3) := by decide +kernel
theorem dX4_conditions_339 : decode cX4_conditions 339 = .ok (.aload_n 0, 1) := by decide +kernel
theorem dX4_conditions_340 : decode cX4_conditions 340 = .ok (.ldc 76, 2) := by decide +kernel
theorem dX4_conditions_342 : decode cX4_conditions 342 = .ok (.bipush 110, 2) := by decide +kernel
theorem dX4_conditions_344 : decode cX4_conditions 344 = .ok (.bipush 9, 2) := by decide +kernel
theorem dX4_conditions_346 : decode cX4_conditions 346 = .ok (.invokevirtual 48, 3) := by decide +kernel
theorem dX4_conditions_349 : decode cX4_conditions 349 = .ok (.aload_n 0, 1) := by decide +kernel
theorem dX4_conditions_350 : decode cX4_conditions 350 = .ok (.ldc 77, 2) := by decide +kernel
theorem dX4_conditions_352 : decode cX4_conditions 352 = .ok (.bipush 96, 2) := by decide +kernel
theorem dX4_conditions_354 : decode cX4_conditions 354 = .ok (.bipush 9, 2) := by decide +kernel
theorem dX4_conditions_356 : decode cX4_conditions 356 = .ok (.invokevirtual 48, 3) := by decide +kernel
theorem dX4_conditions_359 : decode cX4_conditions 359 = .ok (.aload_n 0, 1) := by decide +kernel
theorem dX4_conditions_360 : decode cX4_conditions 360 = .ok (.ldc 78, 2) := by decide +kernel
theorem dX4_conditions_362 : decode cX4_conditions 362 = .ok (.bipush 98, 2) := by decide +kernel
theorem dX4_conditions_364 : decode cX4_conditions 364 = .ok (.bipush 9, 2) := by decide +kernel
theorem dX4_conditions_366 : decode cX4_conditions 366 = .ok (.invokevirtual 48, 3) := by decide +kernel
theorem dX4_conditions_369 : decode cX4_conditions 369 = .ok (.aload_n 0, 1) := by decide +kernel
theorem dX4_conditions_370 : decode cX4_conditions 370 = .ok (.ldc 79, 2) := by decide +kernel
theorem dX4_conditions_372 : decode cX4_conditions 372 = .ok (.bipush 100, 2) := by decide +kernel
theorem dX4_conditions_374 : decode cX4_conditions 374 = .ok (.bipush 9, 2) := by decide +kernel
theorem dX4_conditions_376 : decode cX4_conditions 376 = .ok (.invokevirtual 48, 3) := by decide +kernel
theorem dX4_conditions_379 : decode cX4_conditions 379 = .ok (.aload_n 0, 1) := by decide +kernel
theorem dX4_conditions_380 : decode cX4_conditions 380 = .ok (.ldc 80, 2) := by decide +kernel
theorem dX4_conditions_382 : decode cX4_conditions 382 = .ok (.bipush 104, 2) := by decide +kernel
theorem dX4_conditions_384 : decode cX4_conditions 384 = .ok (.bipush 9, 2) := by decide +kernel
theorem dX4_conditions_386 : decode cX4_conditions 386 = .ok (.invokevirtual 48, 3) := by decide +kernel
theorem dX4_conditions_389 : decode cX4_conditions 389 = .ok (.aload_n 0, 1) := by decide +kernel
theorem dX4_conditions_390 : decode cX4_conditions 390 = .ok (.ldc 81, 2) := by decide +kernel
theorem dX4_conditions_392 : decode cX4_conditions 392 = .ok (.bipush 106, 2) := by decide +kernel
theorem dX4_conditions_394 : decode cX4_conditions 394 = .ok (.bipush 9, 2) := by decide +kernel
theorem dX4_conditions_396 : decode cX4_conditions 396 = .ok (.invokevirtual 48, 3) := by decide +kernel
theorem dX4_conditions_399 : decode cX4_conditions 399 = .ok (.aload_n 0, 1) := by decide +kernel
theorem dX4_conditions_400 : decode cX4_conditions 400 = .ok (.ldc 82, 2) := by decide +kernel
theorem dX4_conditions_402 : decode cX4_conditions 402 = .ok (.bipush 108, 2) := by decide +kernel
theorem dX4_conditions_404 : decode cX4_conditions 404 = .ok (.bipush 9, 2) := by decide +kernel
theorem dX4_conditions_406 : decode cX4_conditions 406 = .ok (.invokevirtual 48, 3) := by decide +kernel
theorem dX4_conditions_409 : decode cX4_conditions 409 = .ok (.aload_n 0, 1) := by decide +kernel
theorem dX4_conditions_410 : decode cX4_conditions 410 = .ok (.sipush 19481, 3) := by decide +kernel
theorem dX4_conditions_413 : decode cX4_conditions 413 = .ok (.bipush 112, 2) := by decide +kernel
theorem dX4_conditions_415 : decode cX4_conditions 415 = .ok (.bipush 9, 2) := by decide +kernel
theorem dX4_conditions_417 : decode cX4_conditions 417 = .ok (.invokevirtual 48, 3) := by decide +kernel
theorem dX4_conditions_420 : decode cX4_conditions 420 = .ok (.aload_n 0, 1) := by decide +kernel
theorem dX4_conditions_421 : decode cX4_conditions 421 = .ok (.sipush 19493, 3) := by decide +kernel
theorem dX4_conditions_424 : decode cX4_conditions 424 = .ok (.bipush 114, 2) := by decide +kernel
theorem dX4_conditions_426 : decode cX4_conditions 426 = .ok (.bipush 9, 2) := by decide +kernel
theorem dX4_conditions_428 : decode cX4_conditions 428 = .ok (.invokevirtual 48, 3) := by decide +kernel
theorem dX4_conditions_431 : decode cX4_conditions 431 = .ok (.aload_n 0, 1) := by decide +kernel
theorem dX4_conditions_432 : decode cX4_conditions 432 = .ok (.sipush 19483, 3) := by decide +kernel
theorem dX4_conditions_435 : decode cX4_conditions 435 = .ok (.bipush 116, 2) := by decide +kernel
theorem dX4_conditions_437 : decode cX4_conditions 437 = .ok (.bipush 9, 2) := by decide +kernel
theorem dX4_conditions_439 : decode cX4_conditions 439 = .ok (.invokevirtual 48, 3) := by decide +kernel
theorem dX4_conditions_442 : decode cX4_conditions 442 = .ok (.aload_n 0, 1) := by decide +kernel
theorem dX4_conditions_443 : decode cX4_conditions 443 = .ok (.ldc 83, 2) := by decide +kernel
theorem dX4_conditions_445 : decode cX4_conditions 445 = .ok (.bipush 118, 2) := by decide +kernel
theorem dX4_conditions_447 : decode cX4_conditions 447 = .ok (.bipush 9, 2) := by decide +kernel
theorem dX4_conditions_449 : decode cX4_conditions 449 = .ok (.invokevirtual 48, 3) := by decide +kernel
theorem dX4_conditions_452 : decode cX4_conditions 452 = .ok (.aload_n 0, 1) := by decide +kernel
theorem dX4_conditions_453 : decode cX4_conditions 453 = .ok (.ldc 84, 2) := by decide +kernel
theorem dX4_conditions_455 : decode cX4_conditions 455 = .ok (.bipush 120, 2) := by decide +kernel
theorem dX4_conditions_457 : decode cX4_conditions 457 = .ok (.bipush 9, 2) := by decide +kernel
theorem dX4_conditions_459 : decode cX4_conditions 459 = .ok (.invokevirtual 48, 3) := by decide +kernel
theorem dX4_conditions_462 : decode cX4_conditions 462 = .ok (.aload_n 0, 1) := by decide +kernel
theorem dX4_conditions_463 : decode cX4_conditions 463 = .ok (.ldc 85, 2) := by decide +kernel
theorem dX4_conditions_465 : decode cX4_conditions 465 = .ok (.bipush 122, 2) := by decide +kernel
theorem dX4_conditions_467 : decode cX4_conditions 467 = .ok (.bipush 9, 2) := by decide +kernel
theorem dX4_conditions_469 : decode cX4_conditions 469 = .ok (.invokevirtual 48, 3) := by decide +kernel
theorem dX4_conditions_472 : decode cX4_conditions 472 = .ok (.aload_n 0, 1) := by decide +kernel
theorem dX4_conditions_473 : decode cX4_conditions 473 = .ok (.ldc 86, 2) := by decide +kernel
theorem dX4_conditions_475 : decode cX4_conditions 475 = .ok (.bipush 124, 2) := by decide +kernel
theorem dX4_conditions_477 : decode cX4_conditions 477 = .ok (.bipush 9, 2) := by decide +kernel
theorem dX4_conditions_479 : decode cX4_conditions 479 = .ok (.invokevirtual 48, 3) := by decide +kernel
theorem dX4_conditions_482 : decode cX4_conditions 482 = .ok (.aload_n 0, 1) := by decide +kernel
theorem dX4_conditions_483 : decode cX4_conditions 483 = .ok (.ldc 87, 2) := by decide +kernel
theorem dX4_conditions_485 : decode cX4_conditions 485 = .ok (.bipush 126, 2) := by decide +kernel
theorem dX4_conditions_487 : decode cX4_conditions 487 = .ok (.bipush 9, 2) := by decide +kernel
theorem dX4_conditions_489 : decode cX4_conditions 489 = .ok (.invokevirtual 48, 3) := by decide +kernel
theorem dX4_conditions_492 : decode cX4_conditions 492 = .ok (.aload_n 0, 1) := by decide +kernel
theorem dX4_conditions_493 : decode cX4_conditions 493 = .ok (.ldc 88, 2) := by decide +kernel
theorem dX4_conditions_495 : decode cX4_conditions 495 = .ok (.bipush 112, 2) := by decide +kernel
theorem dX4_conditions_497 : decode cX4_conditions 497 = .ok (.bipush 9, 2) := by decide +kernel
theorem dX4_conditions_499 : decode cX4_conditions 499 = .ok (.invokevirtual 48, 3) := by decide +kernel
theorem dX4_conditions_502 : decode cX4_conditions 502 = .ok (.aload_n 0, 1) := by decide +kernel
theorem dX4_conditions_503 : decode cX4_conditions 503 = .ok (.ldc 89, 2) := by decide +kernel
theorem dX4_conditions_505 : decode cX4_conditions 505 = .ok (.bipush 114, 2) := by decide +kernel
theorem dX4_conditions_507 : decode cX4_conditions 507 = .ok (.bipush 9, 2) := by decide +kernel
theorem dX4_conditions_509 : decode cX4_conditions 509 = .ok (.invokevirtual 48, 3) := by decide +kernel
theorem dX4_conditions_512 : decode cX4_conditions 512 = .ok (.aload_n 0, 1) := by decide +kernel
theorem dX4_conditions_513 : decode cX4_conditions 513 = .ok (.ldc 90, 2) := by decide +kernel
theorem dX4_conditions_515 : decode cX4_conditions 515 = .ok (.bipush 116, 2) := by decide +kernel
theorem dX4_conditions_517 : decode cX4_conditions 517 = .ok (.bipush 9, 2) := by decide +kernel
theorem dX4_conditions_519 : decode cX4_conditions 519 = .ok (.invokevirtual 48, 3) := by decide +kernel
theorem dX4_conditions_522 : decode cX4_conditions 522 = .ok (.aload_n 0, 1) := by decide +kernel
theorem dX4_conditions_523 : decode cX4_conditions 523 = .ok (.ldc 91, 2) := by decide +kernel
theorem dX4_conditions_525 : decode cX4_conditions 525 = .ok (.bipush 120, 2) := by decide +kernel
theorem dX4_conditions_527 : decode cX4_conditions 527 = .ok (.bipush 9, 2) := by decide +kernel
theorem dX4_conditions_529 : decode cX4_conditions 529 = .ok (.invokevirtual 48, 3) := by decide +kernel
theorem dX4_conditions_532 : decode cX4_conditions 532 = .ok (.aload_n 0, 1) := by decide +kernel
theorem dX4_conditions_533 : decode cX4_conditions 533 = .ok (.ldc 92, 2) := by decide +kernel
theorem dX4_conditions_535 : decode cX4_conditions 535 = .ok (.bipush 122, 2) := by decide +kernel
theorem dX4_conditions_537 : decode cX4_conditions 537 = .ok (.bipush 9, 2) := by decide +kernel
theorem dX4_conditions_539 : decode cX4_conditions 539 = .ok (.invokevirtual 48, 3) := by decide +kernel
theorem dX4_conditions_542 : decode cX4_conditions 542 = .ok (.aload_n 0, 1) := by decide +kernel
theorem dX4_conditions_543 : decode cX4_conditions 543 = .ok (.ldc 93, 2) := by decide +kernel
theorem dX4_conditions_545 : decode cX4_conditions 545 = .ok (.bipush 124, 2) := by decide +kernel
theorem dX4_conditions_547 : decode cX4_conditions 547 = .ok (.bipush 9, 2) := by decide +kernel
theorem dX4_conditions_549 : decode cX4_conditions 549 = .ok (.invokevirtual 48, 3) := by decide +kernel
theorem dX4_conditions_552 : decode cX4_conditions 552 = .ok (.return_, 1) := by decide +kernel
set_option maxRecDepth 20000 in
theorem ggX4_accesses_X4_pair : GoodIn wsX4_accesses wsX4_pair := goodIn_r _ [17, 18, 19, 20, 16, 21, 22, 23, 24, 25, 26, 27, 28, 29, 30, 31, 32, 33, 34, 35, 36, 37, 38, 39, 40, 41] (by decide +kernel) (by decide +kernel)
set_option maxRecDepth 20000 in
theorem gX4_accesses_X4_pair : GoodIn wsX4_accesses (wsV RX4 48 RX4 yX4_pair wsX4_pair) := goodIn_app (goodIn_of _ (by decide +kernel)) ggX4_accesses_X4_pair
theorem dX4_accesses_0 : decode cX4_accesses 0 = .ok (.aload_n 0, 1) := by decide +kernel
theorem dX4_accesses_1 : decode cX4_accesses 1 = .ok (.sipush 8858, 3) := by decide +kernel
theorem dX4_accesses_4 : decode cX4_accesses 4 = .ok (.sipush 128, 3) := by decide +kernel
theorem dX4_accesses_7 : decode cX4_accesses 7 = .ok (.bipush 9, 2) := by decide +kernel
theorem dX4_accesses_9 : decode cX4_accesses 9 = .ok (.invokevirtual 48, 3) := by decide +kernel
theorem dX4_accesses_12 : decode cX4_accesses 12 = .ok (.aload_n 0, 1) := by decide +kernel
theorem dX4_accesses_13 : decode cX4_accesses 13 = .ok (.ldc 94, 2) := by decide +kernel
theorem dX4_accesses_15 : decode cX4_accesses 15 = .ok (.sipush 130, 3) := by decide +kernel
theorem dX4_accesses_18 : decode cX4_accesses 18 = .ok (.bipush 9, 2) := by decide +kernel
theorem dX4_accesses_20 : decode cX4_accesses 20 = .ok (.invokevirtual 48, 3) := by decide +kernel
theorem dX4_accesses_23 : decode cX4_accesses 23 = .ok (.aload_n 0, 1) := by decide +kernel
theorem dX4_accesses_24 : decode cX4_accesses 24 = .ok (.sipush 8879, 3) := by decide +kernel
theorem dX4_accesses_27 : decode cX4_accesses 27 = .ok (.sipush 132, 3) := by decide +kernel
theorem dX4_accesses_30 : decode cX4_accesses 30 = .ok (.bipush 9, 2) := by decide +kernel
theorem dX4_accesses_32 : decode cX4_accesses 32 = .ok (.invokevirtual 48, 3) := by decide +kernel
theorem dX4_accesses_35 : decode cX4_accesses 35 = .ok (.aload_n 0, 1) := by decide +kernel
theorem dX4_accesses_36 : decode cX4_accesses 36 = .ok (.ldc 95, 2) := by decide +kernel
theorem dX4_accesses_38 : decode cX4_accesses 38 = .ok (.sipush 134, 3) := by decide +kernel
theorem dX4_accesses_41 : decode cX4_accesses 41 = .ok (.bipush 9, 2) := by decide +kernel
theorem dX4_accesses_43 : decode cX4_accesses 43 = .ok (.invokevirtual 48, 3) := by decide +kernel
theorem dX4_accesses_46 : decode cX4_accesses 46 = .ok (.aload_n 0, 1) := by decide +kernel
theorem dX4_accesses_47 : decode cX4_accesses 47 = .ok (.sipush 8876, 3) := by decide +kernel
theorem dX4_accesses_50 : decode cX4_accesses 50 = .ok (.sipush 136, 3) := by decide +kernel
theorem dX4_accesses_53 : decode cX4_accesses 53 = .ok (.bipush 9, 2) := by decide +kernel
theorem dX4_accesses_55 : decode cX4_accesses 55 = .ok (.invokevirtual 48, 3) := by decide +kernel
theorem dX4_accesses_58 : decode cX4_accesses 58 = .ok (.aload_n 0, 1) := by decide +kernel
theorem dX4_accesses_59 : decode cX4_accesses 59 = .ok (.ldc 96, 2) := by decide +kernel
theorem dX4_accesses_61 : decode cX4_accesses 61 = .ok (.sipush 138, 3) := by decide +kernel
theorem dX4_accesses_64 : decode cX4_accesses 64 = .ok (.bipush 9, 2) := by decide +kernel
theorem dX4_accesses_66 : decode cX4_accesses 66 = .ok (.invokevirtual 48, 3) := by decide +kernel
theorem dX4_accesses_69 : decode cX4_accesses 69 = .ok (.aload_n 0, 1) := by decide +kernel
theorem dX4_accesses_70 : decode cX4_accesses 70 = .ok (.sipush 8871, 3) := by decide +kernel
theorem dX4_accesses_73 : decode cX4_accesses 73 = .ok (.sipush 140, 3) := by decide +kernel
theorem dX4_accesses_76 : decode cX4_accesses 76 = .ok (.bipush 9, 2) := by decide +kernel
theorem dX4_accesses_78 : decode cX4_accesses 78 = .ok (.invokevirtual 48, 3) := by decide +kernel
theorem dX4_accesses_81 : decode cX4_accesses 81 = .ok (.aload_n 0, 1) := by decide +kernel
theorem dX4_accesses_82 : decode cX4_accesses 82 = .ok (.ldc 97, 2) := by decide +kernel
theorem dX4_accesses_84 : decode cX4_accesses 84 = .ok (.sipush 142, 3) := by decide +kernel
theorem dX4_accesses_87 : decode cX4_accesses 87 = .ok (.bipush 9, 2) := by decide +kernel
theorem dX4_accesses_89 : decode cX4_accesses 89 = .ok (.invokevirtual 48, 3) := by decide +kernel
theorem dX4_accesses_92 : decode cX4_accesses 92 = .ok (.aload_n 0, 1) := by decide +kernel
theorem dX4_accesses_93 : decode cX4_accesses 93 = .ok (.sipush 326, 3) := by decide +kernel
theorem dX4_accesses_96 : decode cX4_accesses 96 = .ok (.sipush 128, 3) := by decide +kernel
theorem dX4_accesses_99 : decode cX4_accesses 99 = .ok (.bipush 9, 2) := by decide +kernel
theorem dX4_accesses_101 : decode cX4_accesses 101 = .ok (.invokevirtual 48, 3) := by decide +kernel
theorem dX4_accesses_104 : decode cX4_accesses 104 = .ok (.aload_n 0, 1) := by decide +kernel
theorem dX4_accesses_105 : decode cX4_accesses 105 = .ok (.sipush 8823, 3) := by decide +kernel
theorem dX4_accesses_108 : decode cX4_accesses 108 = .ok (.sipush 130, 3) := by decide +kernel
theorem dX4_accesses_111 : decode cX4_accesses 111 = .ok (.bipush 9, 2) := by decide +kernel
theorem dX4_accesses_113 : decode cX4_accesses 113 = .ok (.invokevirtual 48, 3) := by decide +kernel
theorem dX4_accesses_116 : decode cX4_accesses 116 = .ok (.aload_n 0, 1) := by decide +kernel
theorem dX4_accesses_117 : decode cX4_accesses 117 = .ok (.sipush 347, 3) := by decide +kernel
theorem dX4_accesses_120 : decode cX4_accesses 120 = .ok (.sipush 132, 3) := by decide +kernel
theorem dX4_accesses_123 : decode cX4_accesses 123 = .ok (.bipush 9, 2) := by decide +kernel
theorem dX4_accesses_125 : decode cX4_accesses 125 = .ok (.invokevirtual 48, 3) := by decide +kernel
theorem dX4_accesses_128 : decode cX4_accesses 128 = .ok (.aload_n 0, 1) := by decide +kernel
theorem dX4_accesses_129 : decode cX4_accesses 129 = .ok (.sipush 9390, 3) := by decide +kernel
theorem dX4_accesses_132 : decode cX4_accesses 132 = .ok (.sipush 134, 3) := by decide +kernel
theorem dX4_accesses_135 : decode cX4_accesses 135 = .ok (.bipush 9, 2) := by decide +kernel
theorem dX4_accesses_137 : decode cX4_accesses 137 = .ok (.invokevirtual 48, 3) := by decide +kernel
theorem dX4_accesses_140 : decode cX4_accesses 140 = .ok (.aload_n 0, 1) := by decide +kernel
theorem dX4_accesses_141 : decode cX4_accesses 141 = .ok (.sipush 344, 3) := by decide +kernel
theorem dX4_accesses_144 : decode cX4_accesses 144 = .ok (.sipush 136, 3) := by decide +kernel
theorem dX4_accesses_147 : decode cX4_accesses 147 = .ok (.bipush 9, 2) := by decide +kernel
theorem dX4_accesses_149 : decode cX4_accesses 149 = .ok (.invokevirtual 48, 3) := by decide +kernel
theorem dX4_accesses_152 : decode cX4_accesses 152 = .ok (.aload_n 0, 1) := by decide +kernel
theorem dX4_accesses_153 : decode cX4_accesses 153 = .ok (.sipush 9309, 3) := by decide +kernel
theorem dX4_accesses_156 : decode cX4_accesses 156 = .ok (.sipush 138, 3) := by decide +kernel
theorem dX4_accesses_159 : decode cX4_accesses 159 = .ok (.bipush 9, 2) := by decide +kernel
theorem dX4_accesses_161 : decode cX4_accesses 161 = .ok (.invokevirtual 48, 3) := by decide +kernel
theorem dX4_accesses_164 : decode cX4_accesses 164 = .ok (.aload_n 0, 1) := by decide +kernel
theorem dX4_accesses_165 : decode cX4_accesses 165 = .ok (.sipush 339, 3) := by decide +kernel
theorem dX4_accesses_168 : decode cX4_accesses 168 = .ok (.sipush 140, 3) := by decide +kernel
theorem dX4_accesses_171 : decode cX4_accesses 171 = .ok (.bipush 9, 2) := by decide +kernel
theorem dX4_accesses_173 : decode cX4_accesses 173 = .ok (.invokevirtual 48, 3) := by decide +kernel
theorem dX4_accesses_176 : decode cX4_accesses 176 = .ok (.aload_n 0, 1) := by decide +kernel
theorem dX4_accesses_177 : decode cX4_accesses 177 = .ok (.sipush 9174, 3) := by decide +kernel
theorem dX4_accesses_180 : decode cX4_accesses 180 = .ok (.sipush 142, 3) := by decide +kernel
theorem dX4_accesses_183 : decode cX4_accesses 183 = .ok (.bipush 9, 2) := by decide +kernel
theorem dX4_accesses_185 : decode cX4_accesses 185 = .ok (.invokevirtual 48, 3) := by decide +kernel
theorem dX4_accesses_188 : decode cX4_accesses 188 = .ok (.aload_n 0, 1) := by decide +kernel
theorem dX4_accesses_189 : decode cX4_accesses 189 = .ok (.ldc 98, 2) := by decide +kernel
theorem dX4_accesses_191 : decode cX4_accesses 191 = .ok (.sipush 146, 3) := by decide +kernel
theorem dX4_accesses_194 : decode cX4_accesses 194 = .ok (.bipush 9, 2) := by decide +kernel
theorem dX4_accesses_196 : decode cX4_accesses 196 = .ok (.invokevirtual 48, 3) := by decide +kernel
theorem dX4_accesses_199 : decode cX4_accesses 199 = .ok (.aload_n 0, 1) := by decide +kernel
theorem dX4_accesses_200 : decode cX4_accesses 200 = .ok (.sipush 204, 3) := by decide +kernel
theorem dX4_accesses_203 : decode cX4_accesses 203 = .ok (.sipush 158, 3) := by decide +kernel
theorem dX4_accesses_206 : decode cX4_accesses 206 = .ok (.bipush 9, 2) := by decide +kernel
theorem dX4_accesses_208 : decode cX4_accesses 208 = .ok (.invokevirtual 48, 3) := by decide +kernel
theorem dX4_accesses_211 : decode cX4_accesses 211 = .ok (.aload_n 0, 1) := by decide +kernel
theorem dX4_accesses_212 : decode cX4_accesses 212 = .ok (.ldc 99, 2) := by decide +kernel
theorem dX4_accesses_214 : decode cX4_accesses 214 = .ok (.sipush 158, 3) := by decide +kernel
theorem dX4_accesses_217 : decode cX4_accesses 217 = .ok (.bipush 9, 2) := by decide +kernel
theorem dX4_accesses_219 : decode cX4_accesses 219 = .ok (.invokevirtual 48, 3) := by decide +kernel
theorem dX4_accesses_222 : decode cX4_accesses 222 = .ok (.aload_n 0, 1) := by decide +kernel
theorem dX4_accesses_223 : decode cX4_accesses 223 = .ok (.sipush 14393, 3) := by decide +kernel
theorem dX4_accesses_226 : decode cX4_accesses 226 = .ok (.sipush 160, 3) := by decide +kernel
theorem dX4_accesses_229 : decode cX4_accesses 229 = .ok (.bipush 9, 2) := by decide +kernel
theorem dX4_accesses_231 : decode cX4_accesses 231 = .ok (.invokevirtual 48, 3) := by decide +kernel
theorem dX4_accesses_234 : decode cX4_accesses 234 = .ok (.aload_n 0, 1) := by decide +kernel
theorem dX4_accesses_235 : decode cX4_accesses 235 = .ok (.ldc 100, 2) := by decide +kernel
theorem dX4_accesses_237 : decode cX4_accesses 237 = .ok (.sipush 162, 3) := by decide +kernel
theorem dX4_accesses_240 : decode cX4_accesses 240 = .ok (.bipush 9, 2) := by decide +kernel
theorem dX4_accesses_242 : decode cX4_accesses 242 = .ok (.invokevirtual 48, 3) := by decide +kernel
theorem dX4_accesses_245 : decode cX4_accesses 245 = .ok (.aload_n 0, 1) := by decide +kernel
theorem dX4_accesses_246 : decode cX4_accesses 246 = .ok (.sipush 14414, 3) := by decide +kernel
theorem dX4_accesses_249 : decode cX4_accesses 249 = .ok (.sipush 164, 3) := by decide +kernel
theorem dX4_accesses_252 : decode cX4_accesses 252 = .ok (.bipush 9, 2) := by decide +kernel
theorem dX4_accesses_254 : decode cX4_accesses 254 = .ok (.invokevirtual 48, 3) := by decide +kernel
theorem dX4_accesses_257 : decode cX4_accesses 257 = .ok (.aload_n 0, 1) := by decide +kernel
theorem dX4_accesses_258 : decode cX4_accesses 258 = .ok (.ldc 101, 2) := by decide +kernel
theorem dX4_accesses_260 : decode cX4_accesses 260 = .ok (.sipush 166, 3) := by decide +kernel
theorem dX4_accesses_263 : decode cX4_accesses 263 = .ok (.bipush 9, 2) := by decide +kernel
theorem dX4_accesses_265 : decode cX4_accesses 265 = .ok (.invokevirtual 48, 3) := by decide +kernel
theorem dX4_accesses_268 : decode cX4_accesses 268 = .ok (.aload_n 0, 1) := by decide +kernel
theorem dX4_accesses_269 : decode cX4_accesses 269 = .ok (.sipush 14411, 3) := by decide +kernel
theorem dX4_accesses_272 : decode cX4_accesses 272 = .ok (.sipush 168, 3) := by decide +kernel
theorem dX4_accesses_275 : decode cX4_accesses 275 = .ok (.bipush 9, 2) := by decide +kernel
theorem dX4_accesses_277 : decode cX4_accesses 277 = .ok (.invokevirtual 48, 3) := by decide +kernel
theorem dX4_accesses_280 : decode cX4_accesses 280 = .ok (.aload_n 0, 1) := by decide +kernel
theorem dX4_accesses_281 : decode cX4_accesses 281 = .ok (.ldc 102, 2) := by decide +kernel
theorem dX4_accesses_283 : decode cX4_accesses 283 = .ok (.sipush 170, 3) := by decide +kernel
theorem dX4_accesses_286 : decode cX4_accesses 286 = .ok (.bipush 9, 2) := by decide +kernel
theorem dX4_accesses_288 : decode cX4_accesses 288 = .ok (.invokevirtual 48, 3) := by decide +kernel
theorem dX4_accesses_291 : decode cX4_accesses 291 = .ok (.aload_n 0, 1) := by decide +kernel
theorem dX4_accesses_292 : decode cX4_accesses 292 = .ok (.sipush 14406, 3) := by decide +kernel
theorem dX4_accesses_295 : decode cX4_accesses 295 = .ok (.sipush 172, 3) := by decide +kernel
theorem dX4_accesses_298 : decode cX4_accesses 298 = .ok (.bipush 9, 2) := by decide +kernel
theorem dX4_accesses_300 : decode cX4_accesses 300 = .ok (.invokevirtual 48, 3) := by decide +kernel
theorem dX4_accesses_303 : decode cX4_accesses 303 = .ok (.aload_n 0, 1) := by decide +kernel
theorem dX4_accesses_304 : decode cX4_accesses 304 = .ok (.ldc 103, 2) := by decide +kernel
theorem dX4_accesses_306 : decode cX4_accesses 306 = .ok (.sipush 174, 3) := by decide +kernel
theorem dX4_accesses_309 : decode cX4_accesses 309 = .ok (.bipush 9, 2) := by decide +kernel
theorem dX4_accesses_311 : decode cX4_accesses 311 = .ok (.invokevirtual 48, 3) := by decide +kernel
theorem dX4_accesses_314 : decode cX4_accesses 314 = .ok (.aload_n 0, 1) := by decide +kernel
theorem dX4_accesses_315 : decode cX4_accesses 315 = .ok (.sipush 515, 3) := by decide +kernel
theorem dX4_accesses_318 : decode cX4_accesses 318 = .ok (.sipush 160, 3) := by decide +kernel
theorem dX4_accesses_321 : decode cX4_accesses 321 = .ok (.bipush 9, 2) := by decide +kernel
theorem dX4_accesses_323 : decode cX4_accesses 323 = .ok (.invokevirtual 48, 3) := by decide +kernel
theorem dX4_accesses_326 : decode cX4_accesses 326 = .ok (.aload_n 0, 1) := by decide +kernel
theorem dX4_accesses_327 : decode cX4_accesses 327 = .ok (.sipush 536, 3) := by decide +kernel
theorem dX4_accesses_330 : decode cX4_accesses 330 = .ok (.sipush 164, 3) := by decide +kernel
theorem dX4_accesses_333 : decode cX4_accesses 333 = .ok (.bipush 9, 2) := by decide +kernel
theorem dX4_accesses_335 : decode cX4_accesses 335 = .ok (.invokevirtual 48, 3) := by decide +kernel
theorem dX4_accesses_338 : decode cX4_accesses 338 = .ok (.aload_n 0, 1) := by decide +kernel
theorem dX4_accesses_339 : decode cX4_accesses 339 = .ok (.sipush 533, 3) := by decide +kernel
theorem dX4_accesses_342 : decode cX4_accesses 342 = .ok (.sipush 168, 3) := by decide +kernel
theorem dX4_accesses_345 : decode cX4_accesses 345 = .ok (.bipush 9, 2) := by decide +kernel
theorem dX4_accesses_347 : decode cX4_accesses 347 = .ok (.invokevirtual 48, 3) := by decide +kernel
theorem dX4_accesses_350 : decode cX4_accesses 350 = .ok (.aload_n 0, 1) := by decide +kernel
theorem dX4_accesses_351 : decode cX4_accesses 351 = .ok (.sipush 528, 3) := by decide +kernel
theorem dX4_accesses_354 : decode cX4_accesses 354 = .ok (.sipush 172, 3) := by decide +kernel
theorem dX4_accesses_357 : decode cX4_accesses 357 = .ok (.bipush 9, 2) := by decide +kernel
theorem dX4_accesses_359 : decode cX4_accesses 359 = .ok (.invokevirtual 48, 3) := by decide +kernel
theorem dX4_accesses_362 : decode cX4_accesses 362 = .ok (.aload_n 0, 1) := by decide +kernel
theorem dX4_accesses_363 : decode cX4_accesses 363 = .ok (.ldc 104, 2) := by decide +kernel
theorem dX4_accesses_365 : decode cX4_accesses 365 = .ok (.sipush 178, 3) := by decide +kernel
theorem dX4_accesses_368 : decode cX4_accesses 368 = .ok (.bipush 9, 2) := by decide +kernel
theorem dX4_accesses_370 : decode cX4_accesses 370 = .ok (.invokevirtual 48, 3) := by decide +kernel
theorem dX4_accesses_373 : decode cX4_accesses 373 = .ok (.aload_n 0, 1) := by decide +kernel
theorem dX4_accesses_374 : decode cX4_accesses 374 = .ok (.ldc 105, 2) := by decide +kernel
theorem dX4_accesses_376 : decode cX4_accesses 376 = .ok (.sipush 180, 3) := by decide +kernel
theorem dX4_accesses_379 : decode cX4_accesses 379 = .ok (.bipush 9, 2) := by decide +kernel
theorem dX4_accesses_381 : decode cX4_accesses 381 = .ok (.invokevirtual 48, 3) := by decide +kernel
theorem dX4_accesses_384 : decode cX4_accesses 384 = .ok (.return_, 1) := by decide +kernel
set_option maxRecDepth 20000 in
theorem ggX4_bitNames_X4_pair : GoodIn wsX4_bitNames wsX4_pair := goodIn_r _ [13, 14, 15, 16, 12, 17, 18, 19, 20, 21, 22, 23, 24, 25, 26, 27, 28, 29, 30, 31, 32, 33, 34, 35, 36, 37] (by decide +kernel) (by decide +kernel)
set_option maxRecDepth 20000 in
theorem gX4_bitNames_X4_pair : GoodIn wsX4_bitNames (wsV RX4 48 RX4 yX4_pair wsX4_pair) := goodIn_app (goodIn_of _ (by decide +kernel)) ggX4_bitNames_X4_pair
theorem dX4_bitNames_0 : decode cX4_bitNames 0 = .ok (.aload_n 0, 1) := by decide +kernel
theorem dX4_bitNames_1 : decode cX4_bitNames 1 = .ok (.sipush 423, 3) := by decide +kernel
theorem dX4_bitNames_4 : decode cX4_bitNames 4 = .ok (.sipush 192, 3) := by decide +kernel
theorem dX4_bitNames_7 : decode cX4_bitNames 7 = .ok (.bipush 9, 2) := by decide +kernel
theorem dX4_bitNames_9 : decode cX4_bitNames 9 = .ok (.invokevirtual 48, 3) := by decide +kernel
theorem dX4_bitNames_12 : decode cX4_bitNames 12 = .ok (.aload_n 0, 1) := by decide +kernel
theorem dX4_bitNames_13 : decode cX4_bitNames 13 = .ok (.sipush 11435, 3) := by decide +kernel
theorem dX4_bitNames_16 : decode cX4_bitNames 16 = .ok (.sipush 194, 3) := by decide +kernel
theorem dX4_bitNames_19 : decode cX4_bitNames 19 = .ok (.bipush 9, 2) := by decide +kernel
theorem dX4_bitNames_21 : decode cX4_bitNames 21 = .ok (.invokevirtual 48, 3) := by decide +kernel
theorem dX4_bitNames_24 : decode cX4_bitNames 24 = .ok (.aload_n 0, 1) := by decide +kernel
theorem dX4_bitNames_25 : decode cX4_bitNames 25 = .ok (.sipush 10629, 3) := by decide +kernel
theorem dX4_bitNames_28 : decode cX4_bitNames 28 = .ok (.sipush 196, 3) := by decide +kernel
theorem dX4_bitNames_31 : decode cX4_bitNames 31 = .ok (.bipush 9, 2) := by decide +kernel
theorem dX4_bitNames_33 : decode cX4_bitNames 33 = .ok (.invokevirtual 48, 3) := by decide +kernel
theorem dX4_bitNames_36 : decode cX4_bitNames 36 = .ok (.aload_n 0, 1) := by decide +kernel
theorem dX4_bitNames_37 : decode cX4_bitNames 37 = .ok (.sipush 17919, 3) := by decide +kernel
theorem dX4_bitNames_40 : decode cX4_bitNames 40 = .ok (.sipush 198, 3) := by decide +kernel
theorem dX4_bitNames_43 : decode cX4_bitNames 43 = .ok (.bipush 9, 2) := by decide +kernel
theorem dX4_bitNames_45 : decode cX4_bitNames 45 = .ok (.invokevirtual 48, 3) := by decide +kernel
theorem dX4_bitNames_48 : decode cX4_bitNames 48 = .ok (.aload_n 0, 1) := by decide +kernel
theorem dX4_bitNames_49 : decode cX4_bitNames 49 = .ok (.sipush 1111, 3) := by decide +kernel
theorem dX4_bitNames_52 : decode cX4_bitNames 52 = .ok (.sipush 200, 3) := by decide +kernel
theorem dX4_bitNames_55 : decode cX4_bitNames 55 = .ok (.bipush 9, 2) := by decide +kernel
theorem dX4_bitNames_57 : decode cX4_bitNames 57 = .ok (.invokevirtual 48, 3) := by decide +kernel
theorem dX4_bitNames_60 : decode cX4_bitNames 60 = .ok (.aload_n 0, 1) := by decide +kernel
theorem dX4_bitNames_61 : decode cX4_bitNames 61 = .ok (.sipush 30011, 3) := by decide +kernel
theorem dX4_bitNames_64 : decode cX4_bitNames 64 = .ok (.sipush 202, 3) := by decide +kernel
theorem dX4_bitNames_67 : decode cX4_bitNames 67 = .ok (.bipush 9, 2) := by decide +kernel
theorem dX4_bitNames_69 : decode cX4_bitNames 69 = .ok (.invokevirtual 48, 3) := by decide +kernel
theorem dX4_bitNames_72 : decode cX4_bitNames 72 = .ok (.aload_n 0, 1) := by decide +kernel
theorem dX4_bitNames_73 : decode cX4_bitNames 73 = .ok (.ldc 106, 2) := by decide +kernel
theorem dX4_bitNames_75 : decode cX4_bitNames 75 = .ok (.sipush 204, 3) := by decide +kernel
theorem dX4_bitNames_78 : decode cX4_bitNames 78 = .ok (.bipush 9, 2) := by decide +kernel
theorem dX4_bitNames_80 : decode cX4_bitNames 80 = .ok (.invokevirtual 48, 3) := by decide +kernel
theorem dX4_bitNames_83 : decode cX4_bitNames 83 = .ok (.aload_n 0, 1) := by decide +kernel
theorem dX4_bitNames_84 : decode cX4_bitNames 84 = .ok (.ldc 107, 2) := by decide +kernel
theorem dX4_bitNames_86 : decode cX4_bitNames 86 = .ok (.sipush 206, 3) := by decide +kernel
theorem dX4_bitNames_89 : decode cX4_bitNames 89 = .ok (.bipush 9, 2) := by decide +kernel
theorem dX4_bitNames_91 : decode cX4_bitNames 91 = .ok (.invokevirtual 48, 3) := by decide +kernel
theorem dX4_bitNames_94 : decode cX4_bitNames 94 = .ok (.aload_n 0, 1) := by decide +kernel
theorem dX4_bitNames_95 : decode cX4_bitNames 95 = .ok (.ldc 108, 2) := by decide +kernel
theorem dX4_bitNames_97 : decode cX4_bitNames 97 = .ok (.sipush 208, 3) := by decide +kernel
theorem dX4_bitNames_100 : decode cX4_bitNames 100 = .ok (.bipush 9, 2) := by decide +kernel
theorem dX4_bitNames_102 : decode cX4_bitNames 102 = .ok (.invokevirtual 48, 3) := by decide +kernel
theorem dX4_bitNames_105 : decode cX4_bitNames 105 = .ok (.aload_n 0, 1) := by decide +kernel
theorem dX4_bitNames_106 : decode cX4_bitNames 106 = .ok (.ldc 109, 2) := by decide +kernel
theorem dX4_bitNames_108 : decode cX4_bitNames 108 = .ok (.sipush 210, 3) := by decide +kernel
theorem dX4_bitNames_111 : decode cX4_bitNames 111 = .ok (.bipush 9, 2) := by decide +kernel
theorem dX4_bitNames_113 : decode cX4_bitNames 113 = .ok (.invokevirtual 48, 3) := by decide +kernel
theorem dX4_bitNames_116 : decode cX4_bitNames 116 = .ok (.aload_n 0, 1) := by decide +kernel
theorem dX4_bitNames_117 : decode cX4_bitNames 117 = .ok (.ldc 110, 2) := by decide +kernel
theorem dX4_bitNames_119 : decode cX4_bitNames 119 = .ok (.sipush 212, 3) := by decide +kernel
theorem dX4_bitNames_122 : decode cX4_bitNames 122 = .ok (.bipush 9, 2) := by decide +kernel
theorem dX4_bitNames_124 : decode cX4_bitNames 124 = .ok (.invokevirtual 48, 3) := by decide +kernel
theorem dX4_bitNames_127 : decode cX4_bitNames 127 = .ok (.aload_n 0, 1) := by decide +kernel
theorem dX4_bitNames_128 : decode cX4_bitNames 128 = .ok (.ldc 111, 2) := by decide +kernel
theorem dX4_bitNames_130 : decode cX4_bitNames 130 = .ok (.sipush 214, 3) := by decide +kernel
theorem dX4_bitNames_133 : decode cX4_bitNames 133 = .ok (.bipush 9, 2) := by decide +kernel
theorem dX4_bitNames_135 : decode cX4_bitNames 135 = .ok (.invokevirtual 48, 3) := by decide +kernel
theorem dX4_bitNames_138 : decode cX4_bitNames 138 = .ok (.aload_n 0, 1) := by decide +kernel
theorem dX4_bitNames_139 : decode cX4_bitNames 139 = .ok (.sipush 10068, 3) := by decide +kernel
theorem dX4_bitNames_142 : decode cX4_bitNames 142 = .ok (.sipush 216, 3) := by decide +kernel
theorem dX4_bitNames_145 : decode cX4_bitNames 145 = .ok (.bipush 9, 2) := by decide +kernel
theorem dX4_bitNames_147 : decode cX4_bitNames 147 = .ok (.invokevirtual 48, 3) := by decide +kernel
theorem dX4_bitNames_150 : decode cX4_bitNames 150 = .ok (.aload_n 0, 1) := by decide +kernel
theorem dX4_bitNames_151 : decode cX4_bitNames 151 = .ok (.ldc 112, 2) := by decide +kernel
theorem dX4_bitNames_153 : decode cX4_bitNames 153 = .ok (.sipush 218, 3) := by decide +kernel
theorem dX4_bitNames_156 : decode cX4_bitNames 156 = .ok (.bipush 9, 2) := by decide +kernel
theorem dX4_bitNames_158 : decode cX4_bitNames 158 = .ok (.invokevirtual 48, 3) := by decide +kernel
theorem dX4_bitNames_161 : decode cX4_bitNames 161 = .ok (.aload_n 0, 1) := by decide +kernel
theorem dX4_bitNames_162 : decode cX4_bitNames 162 = .ok (.sipush 9900, 3) := by decide +kernel
theorem dX4_bitNames_165 : decode cX4_bitNames 165 = .ok (.sipush 220, 3) := by decide +kernel
theorem dX4_bitNames_168 : decode cX4_bitNames 168 = .ok (.bipush 9, 2) := by decide +kernel
theorem dX4_bitNames_170 : decode cX4_bitNames 170 = .ok (.invokevirtual 48, 3) := by decide +kernel
theorem dX4_bitNames_173 : decode cX4_bitNames 173 = .ok (.aload_n 0, 1) := by decide +kernel
theorem dX4_bitNames_174 : decode cX4_bitNames 174 = .ok (.ldc 113, 2) := by decide +kernel
theorem dX4_bitNames_176 : decode cX4_bitNames 176 = .ok (.sipush 222, 3) := by decide +kernel
theorem dX4_bitNames_179 : decode cX4_bitNames 179 = .ok (.bipush 9, 2) := by decide +kernel
theorem dX4_bitNames_181 : decode cX4_bitNames 181 = .ok (.invokevirtual 48, 3) := by decide +kernel
theorem dX4_bitNames_184 : decode cX4_bitNames 184 = .ok (.return_, 1) := by decide +kernel
set_option maxRecDepth 20000 in
theorem ggX4_others_X4_add : GoodIn wsX4_others wsX4_add := goodIn_r _ [36, 37, 38, 39, 44, 45, 46, 47, 48, 49, 50, 51, 52, 53, 54, 55, 56, 57, 58, 59, 60] (by decide +kernel) (by decide +kernel)
set_option maxRecDepth 20000 in
theorem gX4_others_X4_add : GoodIn wsX4_others (wsV RX4 115 RX4 yX4_add wsX4_add) := goodIn_app (goodIn_of _ (by decide +kernel)) ggX4_others_X4_add
set_option maxRecDepth 20000 in
theorem ggX4_others_X4_pair : GoodIn wsX4_others wsX4_pair := goodIn_r _ [43, 32, 33, 34, 35, 36, 37, 38, 39, 44, 45, 46, 47, 48, 49, 50, 51, 52, 53, 54, 55, 56, 57, 58, 59, 60] (by decide +kernel) (by decide +kernel)
set_option maxRecDepth 20000 in
theorem gX4_others_X4_pair : GoodIn wsX4_others (wsV RX4 48 RX4 yX4_pair wsX4_pair) := goodIn_app (goodIn_of _ (by decide +kernel)) ggX4_others_X4_pair
theorem dX4_others_0 : decode cX4_others 0 = .ok (.aload_n 0, 1) := by decide +kernel
theorem dX4_others_1 : decode cX4_others 1 = .ok (.ldc 114, 2) := by decide +kernel
theorem dX4_others_3 : decode cX4_others 3 = .ok (.sipush 224, 3) := by decide +kernel
theorem dX4_others_6 : decode cX4_others 6 = .ok (.invokevirtual 115, 3) := by decide +kernel
theorem dX4_others_9 : decode cX4_others 9 = .ok (.aload_n 0, 1) := by decide +kernel
theorem dX4_others_10 : decode cX4_others 10 = .ok (.ldc 119, 2) := by decide +kernel
theorem dX4_others_12 : decode cX4_others 12 = .ok (.sipush 225, 3) := by decide +kernel
theorem dX4_others_15 : decode cX4_others 15 = .ok (.invokevirtual 115, 3) := by decide +kernel
theorem dX4_others_18 : decode cX4_others 18 = .ok (.aload_n 0, 1) := by decide +kernel
theorem dX4_others_19 : decode cX4_others 19 = .ok (.ldc 120, 2) := by decide +kernel
theorem dX4_others_21 : decode cX4_others 21 = .ok (.sipush 226, 3) := by decide +kernel
theorem dX4_others_24 : decode cX4_others 24 = .ok (.invokevirtual 115, 3) := by decide +kernel
theorem dX4_others_27 : decode cX4_others 27 = .ok (.aload_n 0, 1) := by decide +kernel
theorem dX4_others_28 : decode cX4_others 28 = .ok (.ldc 121, 2) := by decide +kernel
theorem dX4_others_30 : decode cX4_others 30 = .ok (.sipush 227, 3) := by decide +kernel
theorem dX4_others_33 : decode cX4_others 33 = .ok (.invokevirtual 115, 3) := by decide +kernel
theorem dX4_others_36 : decode cX4_others 36 = .ok (.aload_n 0, 1) := by decide +kernel
theorem dX4_others_37 : decode cX4_others 37 = .ok (.ldc 122, 2) := by decide +kernel
theorem dX4_others_39 : decode cX4_others 39 = .ok (.sipush 228, 3) := by decide +kernel
theorem dX4_others_42 : decode cX4_others 42 = .ok (.invokevirtual 115, 3) := by decide +kernel
theorem dX4_others_45 : decode cX4_others 45 = .ok (.aload_n 0, 1) := by decide +kernel
theorem dX4_others_46 : decode cX4_others 46 = .ok (.ldc 123, 2) := by decide +kernel
theorem dX4_others_48 : decode cX4_others 48 = .ok (.sipush 229, 3) := by decide +kernel
theorem dX4_others_51 : decode cX4_others 51 = .ok (.invokevirtual 115, 3) := by decide +kernel
theorem dX4_others_54 : decode cX4_others 54 = .ok (.aload_n 0, 1) := by decide +kernel
theorem dX4_others_55 : decode cX4_others 55 = .ok (.ldc 124, 2) := by decide +kernel
theorem dX4_others_57 : decode cX4_others 57 = .ok (.sipush 230, 3) := by decide +kernel
theorem dX4_others_60 : decode cX4_others 60 = .ok (.invokevirtual 115, 3) := by decide +kernel
theorem dX4_others_63 : decode cX4_others 63 = .ok (.aload_n 0, 1) := by decide +kernel
theorem dX4_others_64 : decode cX4_others 64 = .ok (.ldc 125, 2) := by decide +kernel
theorem dX4_others_66 : decode cX4_others 66 = .ok (.sipush 231, 3) := by decide +kernel
theorem dX4_others_69 : decode cX4_others 69 = .ok (.invokevirtual 115, 3) := by decide +kernel
theorem dX4_others_72 : decode cX4_others 72 = .ok (.aload_n 0, 1) := by decide +kernel
theorem dX4_others_73 : decode cX4_others 73 = .ok (.sipush 11429, 3) := by decide +kernel
theorem dX4_others_76 : decode cX4_others 76 = .ok (.sipush 232, 3) := by decide +kernel
theorem dX4_others_79 : decode cX4_others 79 = .ok (.invokevirtual 115, 3) := by decide +kernel
theorem dX4_others_82 : decode cX4_others 82 = .ok (.aload_n 0, 1) := by decide +kernel
theorem dX4_others_83 : decode cX4_others 83 = .ok (.ldc 126, 2) := by decide +kernel
theorem dX4_others_85 : decode cX4_others 85 = .ok (.sipush 233, 3) := by decide +kernel
theorem dX4_others_88 : decode cX4_others 88 = .ok (.invokevirtual 115, 3) := by decide +kernel
theorem dX4_others_91 : decode cX4_others 91 = .ok (.aload_n 0, 1) := by decide +kernel
theorem dX4_others_92 : decode cX4_others 92 = .ok (.ldc 127, 2) := by decide +kernel
theorem dX4_others_94 : decode cX4_others 94 = .ok (.sipush 234, 3) := by decide +kernel
theorem dX4_others_97 : decode cX4_others 97 = .ok (.invokevirtual 115, 3) := by decide +kernel
theorem dX4_others_100 : decode cX4_others 100 = .ok (.aload_n 0, 1) := by decide +kernel
theorem dX4_others_101 : decode cX4_others 101 = .ok (.sipush 11433, 3) := by decide +kernel
theorem dX4_others_104 : decode cX4_others 104 = .ok (.sipush 235, 3) := by decide +kernel
theorem dX4_others_107 : decode cX4_others 107 = .ok (.invokevirtual 115, 3) := by decide +kernel
theorem dX4_others_110 : decode cX4_others 110 = .ok (.aload_n 0, 1) := by decide +kernel
theorem dX4_others_111 : decode cX4_others 111 = .ok (.ldc 128, 2) := by decide +kernel
theorem dX4_others_113 : decode cX4_others 113 = .ok (.sipush 236, 3) := by decide +kernel
theorem dX4_others_116 : decode cX4_others 116 = .ok (.invokevirtual 115, 3) := by decide +kernel
theorem dX4_others_119 : decode cX4_others 119 = .ok (.aload_n 0, 1) := by decide +kernel
theorem dX4_others_120 : decode cX4_others 120 = .ok (.ldc 129, 2) := by decide +kernel
theorem dX4_others_122 : decode cX4_others 122 = .ok (.sipush 237, 3) := by decide +kernel
theorem dX4_others_125 : decode cX4_others 125 = .ok (.invokevirtual 115, 3) := by decide +kernel
theorem dX4_others_128 : decode cX4_others 128 = .ok (.aload_n 0, 1) := by decide +kernel
theorem dX4_others_129 : decode cX4_others 129 = .ok (.ldc 130, 2) := by decide +kernel
theorem dX4_others_131 : decode cX4_others 131 = .ok (.sipush 238, 3) := by decide +kernel
theorem dX4_others_134 : decode cX4_others 134 = .ok (.invokevirtual 115, 3) := by decide +kernel
theorem dX4_others_137 : decode cX4_others 137 = .ok (.aload_n 0, 1) := by decide +kernel
theorem dX4_others_138 : decode cX4_others 138 = .ok (.ldc 131, 2) := by decide +kernel
theorem dX4_others_140 : decode cX4_others 140 = .ok (.sipush 239, 3) := by decide +kernel
theorem dX4_others_143 : decode cX4_others 143 = .ok (.invokevirtual 115, 3) := by decide +kernel
theorem dX4_others_146 : decode cX4_others 146 = .ok (.aload_n 0, 1) := by decide +kernel
theorem dX4_others_147 : decode cX4_others 147 = .ok (.sipush 7657, 3) := by decide +kernel
theorem dX4_others_150 : decode cX4_others 150 = .ok (.sipush 240, 3) := by decide +kernel
theorem dX4_others_153 : decode cX4_others 153 = .ok (.iconst 2, 1) := by decide +kernel
theorem dX4_others_154 : decode cX4_others 154 = .ok (.invokevirtual 48, 3) := by decide +kernel
theorem dX4_others_157 : decode cX4_others 157 = .ok (.aload_n 0, 1) := by decide +kernel
theorem dX4_others_158 : decode cX4_others 158 = .ok (.ldc 132, 2) := by decide +kernel
theorem dX4_others_160 : decode cX4_others 160 = .ok (.sipush 241, 3) := by decide +kernel
theorem dX4_others_163 : decode cX4_others 163 = .ok (.invokevirtual 115, 3) := by decide +kernel
theorem dX4_others_166 : decode cX4_others 166 = .ok (.aload_n 0, 1) := by decide +kernel
theorem dX4_others_167 : decode cX4_others 167 = .ok (.ldc 133, 2) := by decide +kernel
theorem dX4_others_169 : decode cX4_others 169 = .ok (.sipush 244, 3) := by decide +kernel
theorem dX4_others_172 : decode cX4_others 172 = .ok (.iconst 2, 1) := by decide +kernel
theorem dX4_others_173 : decode cX4_others 173 = .ok (.invokevirtual 48, 3) := by decide +kernel
theorem dX4_others_176 : decode cX4_others 176 = .ok (.aload_n 0, 1) := by decide +kernel
theorem dX4_others_177 : decode cX4_others 177 = .ok (.sipush 12251, 3) := by decide +kernel
theorem dX4_others_180 : decode cX4_others 180 = .ok (.sipush 246, 3) := by decide +kernel
theorem dX4_others_183 : decode cX4_others 183 = .ok (.bipush 9, 2) := by decide +kernel
theorem dX4_others_185 : decode cX4_others 185 = .ok (.invokevirtual 48, 3) := by decide +kernel
theorem dX4_others_188 : decode cX4_others 188 = .ok (.aload_n 0, 1) := by decide +kernel
theorem dX4_others_189 : decode cX4_others 189 = .ok (.sipush 5258, 3) := by decide +kernel
theorem dX4_others_192 : decode cX4_others 192 = .ok (.sipush 254, 3) := by decide +kernel
theorem dX4_others_195 : decode cX4_others 195 = .ok (.invokevirtual 115, 3) := by decide +kernel
theorem dX4_others_198 : decode cX4_others 198 = .ok (.aload_n 0, 1) := by decide +kernel
theorem dX4_others_199 : decode cX4_others 199 = .ok (.ldc 134, 2) := by decide +kernel
theorem dX4_others_201 : decode cX4_others 201 = .ok (.sipush 253, 3) := by decide +kernel
theorem dX4_others_204 : decode cX4_others 204 = .ok (.invokevirtual 115, 3) := by decide +kernel
theorem dX4_others_207 : decode cX4_others 207 = .ok (.aload_n 0, 1) := by decide +kernel
theorem dX4_others_208 : decode cX4_others 208 = .ok (.sipush 10627, 3) := by decide +kernel
theorem dX4_others_211 : decode cX4_others 211 = .ok (.sipush 253, 3) := by decide +kernel
theorem dX4_others_214 : decode cX4_others 214 = .ok (.invokevirtual 115, 3) := by decide +kernel
theorem dX4_others_217 : decode cX4_others 217 = .ok (.aload_n 0, 1) := by decide +kernel
theorem dX4_others_218 : decode cX4_others 218 = .ok (.ldc 135, 2) := by decide +kernel
theorem dX4_others_220 : decode cX4_others 220 = .ok (.iconst 0, 1) := by decide +kernel
theorem dX4_others_221 : decode cX4_others 221 = .ok (.invokevirtual 115, 3) := by decide +kernel
theorem dX4_others_224 : decode cX4_others 224 = .ok (.aload_n 0, 1) := by decide +kernel
theorem dX4_others_225 : decode cX4_others 225 = .ok (.ldc 136, 2) := by decide +kernel
theorem dX4_others_227 : decode cX4_others 227 = .ok (.iconst 0, 1) := by decide +kernel
theorem dX4_others_228 : decode cX4_others 228 = .ok (.invokevirtual 115, 3) := by decide +kernel
theorem dX4_others_231 : decode cX4_others 231 = .ok (.aload_n 0, 1) := by decide +kernel
theorem dX4_others_232 : decode cX4_others 232 = .ok (.sipush 333, 3) := by decide +kernel
theorem dX4_others_235 : decode cX4_others 235 = .ok (.sipush 227, 3) := by decide +kernel
theorem dX4_others_238 : decode cX4_others 238 = .ok (.invokevirtual 115, 3) := by decide +kernel
theorem dX4_others_241 : decode cX4_others 241 = .ok (.aload_n 0, 1) := by decide +kernel
theorem dX4_others_242 : decode cX4_others 242 = .ok (.sipush 8999, 3) := by decide +kernel
theorem dX4_others_245 : decode cX4_others 245 = .ok (.sipush 224, 3) := by decide +kernel
theorem dX4_others_248 : decode cX4_others 248 = .ok (.invokevirtual 115, 3) := by decide +kernel
theorem dX4_others_251 : decode cX4_others 251 = .ok (.aload_n 0, 1) := by decide +kernel
theorem dX4_others_252 : decode cX4_others 252 = .ok (.ldc 137, 2) := by decide +kernel
theorem dX4_others_254 : decode cX4_others 254 = .ok (.sipush 225, 3) := by decide +kernel
theorem dX4_others_257 : decode cX4_others 257 = .ok (.invokevirtual 115, 3) := by decide +kernel
theorem dX4_others_260 : decode cX4_others 260 = .ok (.aload_n 0, 1) := by decide +kernel
theorem dX4_others_261 : decode cX4_others 261 = .ok (.ldc 138, 2) := by decide +kernel
theorem dX4_others_263 : decode cX4_others 263 = .ok (.sipush 226, 3) := by decide +kernel
theorem dX4_others_266 : decode cX4_others 266 = .ok (.invokevirtual 115, 3) := by decide +kernel
theorem dX4_others_269 : decode cX4_others 269 = .ok (.aload_n 0, 1) := by decide +kernel
theorem dX4_others_270 : decode cX4_others 270 = .ok (.sipush 8857, 3) := by decide +kernel
theorem dX4_others_273 : decode cX4_others 273 = .ok (.bipush 34, 2) := by decide +kernel
theorem dX4_others_275 : decode cX4_others 275 = .ok (.bipush 9, 2) := by decide +kernel
theorem dX4_others_277 : decode cX4_others 277 = .ok (.invokevirtual 48, 3) := by decide +kernel
theorem dX4_others_280 : decode cX4_others 280 = .ok (.aload_n 0, 1) := by decide +kernel
theorem dX4_others_281 : decode cX4_others 281 = .ok (.sipush 6942, 3) := by decide +kernel
theorem dX4_others_284 : decode cX4_others 284 = .ok (.bipush 34, 2) := by decide +kernel
theorem dX4_others_286 : decode cX4_others 286 = .ok (.bipush 9, 2) := by decide +kernel
theorem dX4_others_288 : decode cX4_others 288 = .ok (.invokevirtual 48, 3) := by decide +kernel
theorem dX4_others_291 : decode cX4_others 291 = .ok (.aload_n 0, 1) := by decide +kernel
theorem dX4_others_292 : decode cX4_others 292 = .ok (.ldc 139, 2) := by decide +kernel
theorem dX4_others_294 : decode cX4_others 294 = .ok (.bipush 32, 2) := by decide +kernel
theorem dX4_others_296 : decode cX4_others 296 = .ok (.bipush 9, 2) := by decide +kernel
theorem dX4_others_298 : decode cX4_others 298 = .ok (.invokevirtual 48, 3) := by decide +kernel
theorem dX4_others_301 : decode cX4_others 301 = .ok (.aload_n 0, 1) := by decide +kernel
theorem dX4_others_302 : decode cX4_others 302 = .ok (.ldc 140, 2) := by decide +kernel
theorem dX4_others_304 : decode cX4_others 304 = .ok (.bipush 36, 2) := by decide +kernel
theorem dX4_others_306 : decode cX4_others 306 = .ok (.bipush 9, 2) := by decide +kernel
theorem dX4_others_308 : decode cX4_others 308 = .ok (.invokevirtual 48, 3) := by decide +kernel
theorem dX4_others_311 : decode cX4_others 311 = .ok (.aload_n 0, 1) := by decide +kernel
theorem dX4_others_312 : decode cX4_others 312 = .ok (.sipush 3054, 3) := by decide +kernel
theorem dX4_others_315 : decode cX4_others 315 = .ok (.bipush 38, 2) := by decide +kernel
theorem dX4_others_317 : decode cX4_others 317 = .ok (.bipush 9, 2) := by decide +kernel
theorem dX4_others_319 : decode cX4_others 319 = .ok (.invokevirtual 48, 3) := by decide +kernel
theorem dX4_others_322 : decode cX4_others 322 = .ok (.aload_n 0, 1) := by decide +kernel
theorem dX4_others_323 : decode cX4_others 323 = .ok (.ldc 141, 2) := by decide +kernel
theorem dX4_others_325 : decode cX4_others 325 = .ok (.bipush 24, 2) := by decide +kernel
theorem dX4_others_327 : decode cX4_others 327 = .ok (.bipush 9, 2) := by decide +kernel
theorem dX4_others_329 : decode cX4_others 329 = .ok (.invokevirtual 48, 3) := by decide +kernel
theorem dX4_others_332 : decode cX4_others 332 = .ok (.aload_n 0, 1) := by decide +kernel
theorem dX4_others_333 : decode cX4_others 333 = .ok (.ldc 142, 2) := by decide +kernel
theorem dX4_others_335 : decode cX4_others 335 = .ok (.bipush 28, 2) := by decide +kernel
theorem dX4_others_337 : decode cX4_others 337 = .ok (.bipush 9, 2) := by decide +kernel
theorem dX4_others_339 : decode cX4_others 339 = .ok (.invokevirtual 48, 3) := by decide +kernel
theorem dX4_others_342 : decode cX4_others 342 = .ok (.aload_n 0, 1) := by decide +kernel
theorem dX4_others_343 : decode cX4_others 343 = .ok (.ldc 143, 2) := by decide +kernel
theorem dX4_others_345 : decode cX4_others 345 = .ok (.bipush 48, 2) := by decide +kernel
theorem dX4_others_347 : decode cX4_others 347 = .ok (.bipush 9, 2) := by decide +kernel
theorem dX4_others_349 : decode cX4_others 349 = .ok (.invokevirtual 48, 3) := by decide +kernel
theorem dX4_others_352 : decode cX4_others 352 = .ok (.aload_n 0, 1) := by decide +kernel
theorem dX4_others_353 : decode cX4_others 353 = .ok (.sipush 14079, 3) := by decide +kernel
theorem dX4_others_356 : decode cX4_others 356 = .ok (.bipush 56, 2) := by decide +kernel
theorem dX4_others_358 : decode cX4_others 358 = .ok (.bipush 9, 2) := by decide +kernel
theorem dX4_others_360 : decode cX4_others 360 = .ok (.invokevirtual 48, 3) := by decide +kernel
end
section
theorem dX4_others_363 : decode cX4_others 363 = .ok (.aload_n 0, 1) := by decide +kernel
theorem dX4_others_364 : decode cX4_others 364 = .ok (.ldc 144, 2) := by decide +kernel
theorem dX4_others_366 : decode cX4_others 366 = .ok (.bipush 58, 2) := by decide +kernel
theorem dX4_others_368 : decode cX4_others 368 = .ok (.bipush 9, 2) := by decide +kernel
theorem dX4_others_370 : decode cX4_others 370 = .ok (.invokevirtual 48, 3) := by decide +kernel
theorem dX4_others_373 : decode cX4_others 373 = .ok (.aload_n 0, 1) := by decide +kernel
theorem dX4_others_374 : decode cX4_others 374 = .ok (.sipush 14085, 3) := by decide +kernel
theorem dX4_others_377 : decode cX4_others 377 = .ok (.bipush 60, 2) := by decide +kernel
theorem dX4_others_379 : decode cX4_others 379 = .ok (.bipush 9, 2) := by decide +kernel
theorem dX4_others_381 : decode cX4_others 381 = .ok (.invokevirtual 48, 3) := by decide +kernel
theorem dX4_others_384 : decode cX4_others 384 = .ok (.aload_n 0, 1) := by decide +kernel
theorem dX4_others_385 : decode cX4_others 385 = .ok (.ldc 145, 2) := by decide +kernel
theorem dX4_others_387 : decode cX4_others 387 = .ok (.bipush 62, 2) := by decide +kernel
theorem dX4_others_389 : decode cX4_others 389 = .ok (.bipush 9, 2) := by decide +kernel
theorem dX4_others_391 : decode cX4_others 391 = .ok (.invokevirtual 48, 3) := by decide +kernel
theorem dX4_others_394 : decode cX4_others 394 = .ok (.aload_n 0, 1) := by decide +kernel
theorem dX4_others_395 : decode cX4_others 395 = .ok (.ldc 146, 2) := by decide +kernel
theorem dX4_others_397 : decode cX4_others 397 = .ok (.sipush 192, 3) := by decide +kernel
theorem dX4_others_400 : decode cX4_others 400 = .ok (.bipush 9, 2) := by decide +kernel
theorem dX4_others_402 : decode cX4_others 402 = .ok (.invokevirtual 48, 3) := by decide +kernel
theorem dX4_others_405 : decode cX4_others 405 = .ok (.aload_n 0, 1) := by decide +kernel
theorem dX4_others_406 : decode cX4_others 406 = .ok (.sipush 4068, 3) := by decide +kernel
theorem dX4_others_409 : decode cX4_others 409 = .ok (.sipush 198, 3) := by decide +kernel
theorem dX4_others_412 : decode cX4_others 412 = .ok (.bipush 9, 2) := by decide +kernel
theorem dX4_others_414 : decode cX4_others 414 = .ok (.invokevirtual 48, 3) := by decide +kernel
theorem dX4_others_417 : decode cX4_others 417 = .ok (.aload_n 0, 1) := by decide +kernel
theorem dX4_others_418 : decode cX4_others 418 = .ok (.sipush 1704, 3) := by decide +kernel
theorem dX4_others_421 : decode cX4_others 421 = .ok (.sipush 202, 3) := by decide +kernel
theorem dX4_others_424 : decode cX4_others 424 = .ok (.bipush 9, 2) := by decide +kernel
theorem dX4_others_426 : decode cX4_others 426 = .ok (.invokevirtual 48, 3) := by decide +kernel
theorem dX4_others_429 : decode cX4_others 429 = .ok (.aload_n 0, 1) := by decide +kernel
theorem dX4_others_430 : decode cX4_others 430 = .ok (.ldc 147, 2) := by decide +kernel
theorem dX4_others_432 : decode cX4_others 432 = .ok (.sipush 218, 3) := by decide +kernel
theorem dX4_others_435 : decode cX4_others 435 = .ok (.bipush 9, 2) := by decide +kernel
theorem dX4_others_437 : decode cX4_others 437 = .ok (.invokevirtual 48, 3) := by decide +kernel
theorem dX4_others_440 : decode cX4_others 440 = .ok (.aload_n 0, 1) := by decide +kernel
theorem dX4_others_441 : decode cX4_others 441 = .ok (.ldc 148, 2) := by decide +kernel
theorem dX4_others_443 : decode cX4_others 443 = .ok (.sipush 216, 3) := by decide +kernel
theorem dX4_others_446 : decode cX4_others 446 = .ok (.bipush 9, 2) := by decide +kernel
theorem dX4_others_448 : decode cX4_others 448 = .ok (.invokevirtual 48, 3) := by decide +kernel
theorem dX4_others_451 : decode cX4_others 451 = .ok (.return_, 1) := by decide +kernel
set_option maxRecDepth 20000 in
theorem ggX4_pair_X4_add : GoodIn wsX4_pair wsX4_add := goodIn_r _ [5, 6, 7, 8, 9, 10, 11, 12, 13, 14, 15, 16, 17, 18, 19, 20, 21, 22, 23, 24, 25] rfl (by decide +kernel)
set_option maxRecDepth 20000 in
theorem gX4_pair_X4_add : GoodIn wsX4_pair (wsV RX4 115 RX4 yX4_add wsX4_add) := goodIn_app (goodIn_of _ (by decide +kernel)) ggX4_pair_X4_add
theorem dX4_pair_0 : decode cX4_pair 0 = .ok (.aload_n 0, 1) := by decide +kernel
theorem dX4_pair_1 : decode cX4_pair 1 = .ok (.iload_n 1, 1) := by decide +kernel
theorem dX4_pair_2 : decode cX4_pair 2 = .ok (.iload_n 2, 1) := by decide +kernel
theorem dX4_pair_3 : decode cX4_pair 3 = .ok (.invokevirtual 115, 3) := by decide +kernel
theorem dX4_pair_6 : decode cX4_pair 6 = .ok (.aload_n 0, 1) := by decide +kernel
theorem dX4_pair_7 : decode cX4_pair 7 = .ok (.bipush 27, 2) := by decide +kernel
theorem dX4_pair_9 : decode cX4_pair 9 = .ok (.iload_n 1, 1) := by decide +kernel
theorem dX4_pair_10 : decode cX4_pair 10 = .ok (.imul, 1) := by decide +kernel
theorem dX4_pair_11 : decode cX4_pair 11 = .ok (.iload_n 3, 1) := by decide +kernel
theorem dX4_pair_12 : decode cX4_pair 12 = .ok (.iadd, 1) := by decide +kernel
theorem dX4_pair_13 : decode cX4_pair 13 = .ok (.iload_n 2, 1) := by decide +kernel
theorem dX4_pair_14 : decode cX4_pair 14 = .ok (.iconst 1, 1) := by decide +kernel
theorem dX4_pair_15 : decode cX4_pair 15 = .ok (.iadd, 1) := by decide +kernel
theorem dX4_pair_16 : decode cX4_pair 16 = .ok (.invokevirtual 115, 3) := by decide +kernel
theorem dX4_pair_19 : decode cX4_pair 19 = .ok (.return_, 1) := by decide +kernel
theorem dX4_add_0 : decode cX4_add 0 = .ok (.aload_n 0, 1) := by decide +kernel
theorem dX4_add_1 : decode cX4_add 1 = .ok (.getfield 26, 3) := by decide +kernel
theorem dX4_add_4 : decode cX4_add 4 = .ok (.aload_n 0, 1) := by decide +kernel
theorem dX4_add_5 : decode cX4_add 5 = .ok (.getfield 149, 3) := by decide +kernel
theorem dX4_add_8 : decode cX4_add 8 = .ok (.iload_n 1, 1) := by decide +kernel
theorem dX4_add_9 : decode cX4_add 9 = .ok (.iastore, 1) := by decide +kernel
theorem dX4_add_10 : decode cX4_add 10 = .ok (.aload_n 0, 1) := by decide +kernel
theorem dX4_add_11 : decode cX4_add 11 = .ok (.getfield 30, 3) := by decide +kernel
theorem dX4_add_14 : decode cX4_add 14 = .ok (.aload_n 0, 1) := by decide +kernel
theorem dX4_add_15 : decode cX4_add 15 = .ok (.getfield 149, 3) := by decide +kernel
theorem dX4_add_18 : decode cX4_add 18 = .ok (.iload_n 2, 1) := by decide +kernel
theorem dX4_add_19 : decode cX4_add 19 = .ok (.iastore, 1) := by decide +kernel
theorem dX4_add_20 : decode cX4_add 20 = .ok (.aload_n 0, 1) := by decide +kernel
theorem dX4_add_21 : decode cX4_add 21 = .ok (.dup, 1) := by decide +kernel
theorem dX4_add_22 : decode cX4_add 22 = .ok (.getfield 149, 3) := by decide +kernel
theorem dX4_add_25 : decode cX4_add 25 = .ok (.iconst 1, 1) := by decide +kernel
theorem dX4_add_26 : decode cX4_add 26 = .ok (.iadd, 1) := by decide +kernel
theorem dX4_add_27 : decode cX4_add 27 = .ok (.putfield 149, 3) := by decide +kernel
theorem dX4_add_30 : decode cX4_add 30 = .ok (.return_, 1) := by decide +kernel
theorem dX4_thrown_0 : decode cX4_thrown 0 = .ok (.aload_n 0, 1) := by decide +kernel
theorem dX4_thrown_1 : decode cX4_thrown 1 = .ok (.getfield 153, 3) := by decide +kernel
theorem dX4_thrown_4 : decode cX4_thrown 4 = .ok (.ireturn, 1) := by decide +kernel
theorem dX4_fail_0 : decode cX4_fail 0 = .ok (.aload_n 0, 1) := by decide +kernel
theorem dX4_fail_1 : decode cX4_fail 1 = .ok (.iload_n 1, 1) := by decide +kernel
theorem dX4_fail_2 : decode cX4_fail 2 = .ok (.putfield 153, 3) := by decide +kernel
theorem dX4_fail_5 : decode cX4_fail 5 = .ok (.iconst 0, 1) := by decide +kernel
theorem dX4_fail_6 : decode cX4_fail 6 = .ok (.ireturn, 1) := by decide +kernel
theorem dX4_beyond_0 : decode cX4_beyond 0 = .ok (.lload_n 0, 1) := by decide +kernel
theorem dX4_beyond_1 : decode cX4_beyond 1 = .ok (.lconst 0, 1) := by decide +kernel
theorem dX4_beyond_2 : decode cX4_beyond 2 = .ok (.lcmp, 1) := by decide +kernel
theorem dX4_beyond_3 : decode cX4_beyond 3 = .ok (.ifCond .lt 11, 3) := by decide +kernel
theorem dX4_beyond_6 : decode cX4_beyond 6 = .ok (.lload_n 0, 1) := by decide +kernel
theorem dX4_beyond_7 : decode cX4_beyond 7 = .ok (.ldc2_w 156, 3) := by decide +kernel
theorem dX4_beyond_10 : decode cX4_beyond 10 = .ok (.lcmp, 1) := by decide +kernel
theorem dX4_beyond_11 : decode cX4_beyond 11 = .ok (.ifCond .le 7, 3) := by decide +kernel
theorem dX4_beyond_14 : decode cX4_beyond 14 = .ok (.iconst 1, 1) := by decide +kernel
theorem dX4_beyond_15 : decode cX4_beyond 15 = .ok (.goto 4, 3) := by decide +kernel
theorem dX4_beyond_18 : decode cX4_beyond 18 = .ok (.iconst 0, 1) := by decide +kernel
theorem dX4_beyond_19 : decode cX4_beyond 19 = .ok (.ireturn, 1) := by decide +kernel
theorem dX4_m_0 : decode cX4_m 0 = .ok (.lload_n 1, 1) := by decide +kernel
theorem dX4_m_1 : decode cX4_m 1 = .ok (.l2i, 1) := by decide +kernel
theorem dX4_m_2 : decode cX4_m 2 = .ok (.iload_n 3, 1) := by decide +kernel
theorem dX4_m_3 : decode cX4_m 3 = .ok (.ineg, 1) := by decide +kernel
theorem dX4_m_4 : decode cX4_m 4 = .ok (.iand, 1) := by decide +kernel
theorem dX4_m_5 : decode cX4_m 5 = .ok (.istore 4, 2) := by decide +kernel
theorem dX4_m_7 : decode cX4_m 7 = .ok (.lconst 0, 1) := by decide +kernel
theorem dX4_m_8 : decode cX4_m 8 = .ok (.lstore 5, 2) := by decide +kernel
theorem dX4_m_10 : decode cX4_m 10 = .ok (.iconst 0, 1) := by decide +kernel
theorem dX4_m_11 : decode cX4_m 11 = .ok (.istore 7, 2) := by decide +kernel
theorem dX4_m_13 : decode cX4_m 13 = .ok (.iload 7, 2) := by decide +kernel
theorem dX4_m_15 : decode cX4_m 15 = .ok (.iload_n 3, 1) := by decide +kernel
theorem dX4_m_16 : decode cX4_m 16 = .ok (.if_icmp .ge 32, 3) := by decide +kernel
theorem dX4_m_19 : decode cX4_m 19 = .ok (.lload 5, 2) := by decide +kernel
theorem dX4_m_21 : decode cX4_m 21 = .ok (.bipush 8, 2) := by decide +kernel
theorem dX4_m_23 : decode cX4_m 23 = .ok (.lshl, 1) := by decide +kernel
theorem dX4_m_24 : decode cX4_m 24 = .ok (.aload_n 0, 1) := by decide +kernel
theorem dX4_m_25 : decode cX4_m 25 = .ok (.getfield 19, 3) := by decide +kernel
theorem dX4_m_28 : decode cX4_m 28 = .ok (.iload 4, 2) := by decide +kernel
theorem dX4_m_30 : decode cX4_m 30 = .ok (.iload 7, 2) := by decide +kernel
theorem dX4_m_32 : decode cX4_m 32 = .ok (.iadd, 1) := by decide +kernel
theorem dX4_m_33 : decode cX4_m 33 = .ok (.baload, 1) := by decide +kernel
theorem dX4_m_34 : decode cX4_m 34 = .ok (.sipush 255, 3) := by decide +kernel
theorem dX4_m_37 : decode cX4_m 37 = .ok (.iand, 1) := by decide +kernel
theorem dX4_m_38 : decode cX4_m 38 = .ok (.i2l, 1) := by decide +kernel
theorem dX4_m_39 : decode cX4_m 39 = .ok (.lor, 1) := by decide +kernel
theorem dX4_m_40 : decode cX4_m 40 = .ok (.lstore 5, 2) := by decide +kernel
theorem dX4_m_42 : decode cX4_m 42 = .ok (.iinc 7 1, 3) := by decide +kernel
theorem dX4_m_45 : decode cX4_m 45 = .ok (.goto (-32), 3) := by decide +kernel
theorem dX4_m_48 : decode cX4_m 48 = .ok (.lload 5, 2) := by decide +kernel
theorem dX4_m_50 : decode cX4_m 50 = .ok (.lreturn, 1) := by decide +kernel
theorem dX4_m__0 : decode cX4_m_ 0 = .ok (.lload_n 1, 1) := by decide +kernel
theorem dX4_m__1 : decode cX4_m_ 1 = .ok (.l2i, 1) := by decide +kernel
theorem dX4_m__2 : decode cX4_m_ 2 = .ok (.iload_n 3, 1) := by decide +kernel
theorem dX4_m__3 : decode cX4_m_ 3 = .ok (.ineg, 1) := by decide +kernel
theorem dX4_m__4 : decode cX4_m_ 4 = .ok (.iand, 1) := by decide +kernel
theorem dX4_m__5 : decode cX4_m_ 5 = .ok (.istore 6, 2) := by decide +kernel
theorem dX4_m__7 : decode cX4_m_ 7 = .ok (.iconst 0, 1) := by decide +kernel
theorem dX4_m__8 : decode cX4_m_ 8 = .ok (.istore 7, 2) := by decide +kernel
theorem dX4_m__10 : decode cX4_m_ 10 = .ok (.iload 7, 2) := by decide +kernel
theorem dX4_m__12 : decode cX4_m_ 12 = .ok (.iload_n 3, 1) := by decide +kernel
theorem dX4_m__13 : decode cX4_m_ 13 = .ok (.if_icmp .ge 33, 3) := by decide +kernel
theorem dX4_m__16 : decode cX4_m_ 16 = .ok (.aload_n 0, 1) := by decide +kernel
theorem dX4_m__17 : decode cX4_m_ 17 = .ok (.getfield 19, 3) := by decide +kernel
theorem dX4_m__20 : decode cX4_m_ 20 = .ok (.iload 6, 2) := by decide +kernel
theorem dX4_m__22 : decode cX4_m_ 22 = .ok (.iload 7, 2) := by decide +kernel
theorem dX4_m__24 : decode cX4_m_ 24 = .ok (.iadd, 1) := by decide +kernel
theorem dX4_m__25 : decode cX4_m_ 25 = .ok (.lload 4, 2) := by decide +kernel
theorem dX4_m__27 : decode cX4_m_ 27 = .ok (.bipush 8, 2) := by decide +kernel
theorem dX4_m__29 : decode cX4_m_ 29 = .ok (.iload_n 3, 1) := by decide +kernel
theorem dX4_m__30 : decode cX4_m_ 30 = .ok (.iconst 1, 1) := by decide +kernel
theorem dX4_m__31 : decode cX4_m_ 31 = .ok (.isub, 1) := by decide +kernel
theorem dX4_m__32 : decode cX4_m_ 32 = .ok (.iload 7, 2) := by decide +kernel
theorem dX4_m__34 : decode cX4_m_ 34 = .ok (.isub, 1) := by decide +kernel
theorem dX4_m__35 : decode cX4_m_ 35 = .ok (.imul, 1) := by decide +kernel
theorem dX4_m__36 : decode cX4_m_ 36 = .ok (.lshr, 1) := by decide +kernel
theorem dX4_m__37 : decode cX4_m_ 37 = .ok (.l2i, 1) := by decide +kernel
theorem dX4_m__38 : decode cX4_m_ 38 = .ok (.i2b, 1) := by decide +kernel
theorem dX4_m__39 : decode cX4_m_ 39 = .ok (.bastore, 1) := by decide +kernel
theorem dX4_m__40 : decode cX4_m_ 40 = .ok (.iinc 7 1, 3) := by decide +kernel
theorem dX4_m__43 : decode cX4_m_ 43 = .ok (.goto (-33), 3) := by decide +kernel
theorem dX4_m__46 : decode cX4_m_ 46 = .ok (.return_, 1) := by decide +kernel
theorem dX4_signed_0 : decode cX4_signed 0 = .ok (.iload_n 2, 1) := by decide +kernel
theorem dX4_signed_1 : decode cX4_signed 1 = .ok (.bipush 8, 2) := by decide +kernel
theorem dX4_signed_3 : decode cX4_signed 3 = .ok (.if_icmp .ne 7, 3) := by decide +kernel
theorem dX4_signed_6 : decode cX4_signed 6 = .ok (.lload_n 0, 1) := by decide +kernel
theorem dX4_signed_7 : decode cX4_signed 7 = .ok (.goto 20, 3) := by decide +kernel
theorem dX4_signed_10 : decode cX4_signed 10 = .ok (.lload_n 0, 1) := by decide +kernel
theorem dX4_signed_11 : decode cX4_signed 11 = .ok (.bipush 64, 2) := by decide +kernel
theorem dX4_signed_13 : decode cX4_signed 13 = .ok (.bipush 8, 2) := by decide +kernel
theorem dX4_signed_15 : decode cX4_signed 15 = .ok (.iload_n 2, 1) := by decide +kernel
theorem dX4_signed_16 : decode cX4_signed 16 = .ok (.imul, 1) := by decide +kernel
theorem dX4_signed_17 : decode cX4_signed 17 = .ok (.isub, 1) := by decide +kernel
theorem dX4_signed_18 : decode cX4_signed 18 = .ok (.lshl, 1) := by decide +kernel
theorem dX4_signed_19 : decode cX4_signed 19 = .ok (.bipush 64, 2) := by decide +kernel
theorem dX4_signed_21 : decode cX4_signed 21 = .ok (.bipush 8, 2) := by decide +kernel
theorem dX4_signed_23 : decode cX4_signed 23 = .ok (.iload_n 2, 1) := by decide +kernel
theorem dX4_signed_24 : decode cX4_signed 24 = .ok (.imul, 1) := by decide +kernel
theorem dX4_signed_25 : decode cX4_signed 25 = .ok (.isub, 1) := by decide +kernel
theorem dX4_signed_26 : decode cX4_signed 26 = .ok (.lshr, 1) := by decide +kernel
theorem dX4_signed_27 : decode cX4_signed 27 = .ok (.lreturn, 1) := by decide +kernel
theorem dX4_over_0 : decode cX4_over 0 = .ok (.iload_n 1, 1) := by decide +kernel
theorem dX4_over_1 : decode cX4_over 1 = .ok (.ifCond .eq 16, 3) := by decide +kernel
theorem dX4_over_4 : decode cX4_over 4 = .ok (.aload_n 0, 1) := by decide +kernel
theorem dX4_over_5 : decode cX4_over 5 = .ok (.getfield 13, 3) := by decide +kernel
theorem dX4_over_8 : decode cX4_over 8 = .ok (.bipush 7, 2) := by decide +kernel
theorem dX4_over_10 : decode cX4_over 10 = .ok (.dup2, 1) := by decide +kernel
theorem dX4_over_11 : decode cX4_over 11 = .ok (.laload, 1) := by decide +kernel
theorem dX4_over_12 : decode cX4_over 12 = .ok (.ldc2_w 158, 3) := by decide +kernel
theorem dX4_over_15 : decode cX4_over 15 = .ok (.lor, 1) := by decide +kernel
theorem dX4_over_16 : decode cX4_over 16 = .ok (.lastore, 1) := by decide +kernel
theorem dX4_over_17 : decode cX4_over 17 = .ok (.return_, 1) := by decide +kernel
theorem dX4_above_0 : decode cX4_above 0 = .ok (.lload_n 0, 1) := by decide +kernel
theorem dX4_above_1 : decode cX4_above 1 = .ok (.ldc2_w 160, 3) := by decide +kernel
theorem dX4_above_4 : decode cX4_above 4 = .ok (.ladd, 1) := by decide +kernel
theorem dX4_above_5 : decode cX4_above 5 = .ok (.lload_n 2, 1) := by decide +kernel
theorem dX4_above_6 : decode cX4_above 6 = .ok (.ldc2_w 160, 3) := by decide +kernel
theorem dX4_above_9 : decode cX4_above 9 = .ok (.ladd, 1) := by decide +kernel
theorem dX4_above_10 : decode cX4_above 10 = .ok (.lcmp, 1) := by decide +kernel
theorem dX4_above_11 : decode cX4_above 11 = .ok (.ifCond .le 7, 3) := by decide +kernel
theorem dX4_above_14 : decode cX4_above 14 = .ok (.iconst 1, 1) := by decide +kernel
theorem dX4_above_15 : decode cX4_above 15 = .ok (.goto 4, 3) := by decide +kernel
theorem dX4_above_18 : decode cX4_above 18 = .ok (.iconst 0, 1) := by decide +kernel
theorem dX4_above_19 : decode cX4_above 19 = .ok (.ireturn, 1) := by decide +kernel
theorem dX4_holds_0 : decode cX4_holds 0 = .ok (.iload_n 0, 1) := by decide +kernel
theorem dX4_holds_1 : decode cX4_holds 1 = .ok (.tableswitch 129 0 6 #[43, 55, 67, 79, 93, 105, 117], 43) := by decide +kernel
theorem dX4_holds_44 : decode cX4_holds 44 = .ok (.lload_n 1, 1) := by decide +kernel
theorem dX4_holds_45 : decode cX4_holds 45 = .ok (.lconst 0, 1) := by decide +kernel
theorem dX4_holds_46 : decode cX4_holds 46 = .ok (.lcmp, 1) := by decide +kernel
theorem dX4_holds_47 : decode cX4_holds 47 = .ok (.ifCond .ge 7, 3) := by decide +kernel
theorem dX4_holds_50 : decode cX4_holds 50 = .ok (.iconst 1, 1) := by decide +kernel
theorem dX4_holds_51 : decode cX4_holds 51 = .ok (.goto 4, 3) := by decide +kernel
theorem dX4_holds_54 : decode cX4_holds 54 = .ok (.iconst 0, 1) := by decide +kernel
theorem dX4_holds_55 : decode cX4_holds 55 = .ok (.ireturn, 1) := by decide +kernel
theorem dX4_holds_56 : decode cX4_holds 56 = .ok (.lload_n 1, 1) := by decide +kernel
theorem dX4_holds_57 : decode cX4_holds 57 = .ok (.lconst 0, 1) := by decide +kernel
theorem dX4_holds_58 : decode cX4_holds 58 = .ok (.lcmp, 1) := by decide +kernel
theorem dX4_holds_59 : decode cX4_holds 59 = .ok (.ifCond .ne 7, 3) := by decide +kernel
theorem dX4_holds_62 : decode cX4_holds 62 = .ok (.iconst 1, 1) := by decide +kernel
theorem dX4_holds_63 : decode cX4_holds 63 = .ok (.goto 4, 3) := by decide +kernel
theorem dX4_holds_66 : decode cX4_holds 66 = .ok (.iconst 0, 1) := by decide +kernel
theorem dX4_holds_67 : decode cX4_holds 67 = .ok (.ireturn, 1) := by decide +kernel
theorem dX4_holds_68 : decode cX4_holds 68 = .ok (.lload_n 1, 1) := by decide +kernel
theorem dX4_holds_69 : decode cX4_holds 69 = .ok (.lconst 0, 1) := by decide +kernel
theorem dX4_holds_70 : decode cX4_holds 70 = .ok (.lcmp, 1) := by decide +kernel
theorem dX4_holds_71 : decode cX4_holds 71 = .ok (.ifCond .le 7, 3) := by decide +kernel
theorem dX4_holds_74 : decode cX4_holds 74 = .ok (.iconst 1, 1) := by decide +kernel
theorem dX4_holds_75 : decode cX4_holds 75 = .ok (.goto 4, 3) := by decide +kernel
theorem dX4_holds_78 : decode cX4_holds 78 = .ok (.iconst 0, 1) := by decide +kernel
theorem dX4_holds_79 : decode cX4_holds 79 = .ok (.ireturn, 1) := by decide +kernel
theorem dX4_holds_80 : decode cX4_holds 80 = .ok (.lload_n 1, 1) := by decide +kernel
theorem dX4_holds_81 : decode cX4_holds 81 = .ok (.lconst 1, 1) := by decide +kernel
theorem dX4_holds_82 : decode cX4_holds 82 = .ok (.land, 1) := by decide +kernel
theorem dX4_holds_83 : decode cX4_holds 83 = .ok (.lconst 1, 1) := by decide +kernel
theorem dX4_holds_84 : decode cX4_holds 84 = .ok (.lcmp, 1) := by decide +kernel
theorem dX4_holds_85 : decode cX4_holds 85 = .ok (.ifCond .ne 7, 3) := by decide +kernel
theorem dX4_holds_88 : decode cX4_holds 88 = .ok (.iconst 1, 1) := by decide +kernel
theorem dX4_holds_89 : decode cX4_holds 89 = .ok (.goto 4, 3) := by decide +kernel
theorem dX4_holds_92 : decode cX4_holds 92 = .ok (.iconst 0, 1) := by decide +kernel
theorem dX4_holds_93 : decode cX4_holds 93 = .ok (.ireturn, 1) := by decide +kernel
theorem dX4_holds_94 : decode cX4_holds 94 = .ok (.lload_n 1, 1) := by decide +kernel
theorem dX4_holds_95 : decode cX4_holds 95 = .ok (.lconst 0, 1) := by decide +kernel
theorem dX4_holds_96 : decode cX4_holds 96 = .ok (.lcmp, 1) := by decide +kernel
theorem dX4_holds_97 : decode cX4_holds 97 = .ok (.ifCond .lt 7, 3) := by decide +kernel
theorem dX4_holds_100 : decode cX4_holds 100 = .ok (.iconst 1, 1) := by decide +kernel
theorem dX4_holds_101 : decode cX4_holds 101 = .ok (.goto 4, 3) := by decide +kernel
theorem dX4_holds_104 : decode cX4_holds 104 = .ok (.iconst 0, 1) := by decide +kernel
theorem dX4_holds_105 : decode cX4_holds 105 = .ok (.ireturn, 1) := by decide +kernel
theorem dX4_holds_106 : decode cX4_holds 106 = .ok (.lload_n 1, 1) := by decide +kernel
theorem dX4_holds_107 : decode cX4_holds 107 = .ok (.lconst 0, 1) := by decide +kernel
theorem dX4_holds_108 : decode cX4_holds 108 = .ok (.lcmp, 1) := by decide +kernel
theorem dX4_holds_109 : decode cX4_holds 109 = .ok (.ifCond .eq 7, 3) := by decide +kernel
theorem dX4_holds_112 : decode cX4_holds 112 = .ok (.iconst 1, 1) := by decide +kernel
theorem dX4_holds_113 : decode cX4_holds 113 = .ok (.goto 4, 3) := by decide +kernel
theorem dX4_holds_116 : decode cX4_holds 116 = .ok (.iconst 0, 1) := by decide +kernel
theorem dX4_holds_117 : decode cX4_holds 117 = .ok (.ireturn, 1) := by decide +kernel
theorem dX4_holds_118 : decode cX4_holds 118 = .ok (.lload_n 1, 1) := by decide +kernel
theorem dX4_holds_119 : decode cX4_holds 119 = .ok (.lconst 0, 1) := by decide +kernel
theorem dX4_holds_120 : decode cX4_holds 120 = .ok (.lcmp, 1) := by decide +kernel
theorem dX4_holds_121 : decode cX4_holds 121 = .ok (.ifCond .gt 7, 3) := by decide +kernel
theorem dX4_holds_124 : decode cX4_holds 124 = .ok (.iconst 1, 1) := by decide +kernel
theorem dX4_holds_125 : decode cX4_holds 125 = .ok (.goto 4, 3) := by decide +kernel
theorem dX4_holds_128 : decode cX4_holds 128 = .ok (.iconst 0, 1) := by decide +kernel
theorem dX4_holds_129 : decode cX4_holds 129 = .ok (.ireturn, 1) := by decide +kernel
theorem dX4_holds_130 : decode cX4_holds 130 = .ok (.lload_n 1, 1) := by decide +kernel
theorem dX4_holds_131 : decode cX4_holds 131 = .ok (.lconst 1, 1) := by decide +kernel
theorem dX4_holds_132 : decode cX4_holds 132 = .ok (.land, 1) := by decide +kernel
theorem dX4_holds_133 : decode cX4_holds 133 = .ok (.lconst 0, 1) := by decide +kernel
theorem dX4_holds_134 : decode cX4_holds 134 = .ok (.lcmp, 1) := by decide +kernel
theorem dX4_holds_135 : decode cX4_holds 135 = .ok (.ifCond .ne 7, 3) := by decide +kernel
theorem dX4_holds_138 : decode cX4_holds 138 = .ok (.iconst 1, 1) := by decide +kernel
theorem dX4_holds_139 : decode cX4_holds 139 = .ok (.goto 4, 3) := by decide +kernel
theorem dX4_holds_142 : decode cX4_holds 142 = .ok (.iconst 0, 1) := by decide +kernel
theorem dX4_holds_143 : decode cX4_holds 143 = .ok (.ireturn, 1) := by decide +kernel
set_option maxRecDepth 20000 in
theorem ggX4_step_X4_beyond : GoodIn wsX4_step wsX4_beyond := goodIn_r _ [17, 18] rfl (by decide +kernel)
set_option maxRecDepth 20000 in
theorem gX4_step_X4_beyond : GoodIn wsX4_step (va_wsS RX4 166 yX4_beyond wsX4_beyond) := goodIn_app (goodIn_of _ (by decide +kernel)) ggX4_step_X4_beyond
set_option maxRecDepth 20000 in
theorem ggX4_step_X4_m : GoodIn wsX4_step wsX4_m := goodIn_r _ [22, 23, 119, 120, 121, 122, 123, 124, 125, 126, 127, 128, 129, 130, 131, 132, 133, 134, 135] rfl (by decide +kernel)
set_option maxRecDepth 20000 in
theorem gX4_step_X4_m : GoodIn wsX4_step (wsV RX4 170 RX4 yX4_m wsX4_m) := goodIn_app (goodIn_of _ (by decide +kernel)) ggX4_step_X4_m
set_option maxRecDepth 20000 in
theorem ggX4_step_X4_branch : GoodIn wsX4_step wsX4_branch := goodIn_r _ [27, 4, 13, 1, 28, 29, 30, 31, 32, 16, 33, 119, 120, 121, 122, 123, 124, 125, 126, 127, 128, 129, 130, 131, 132, 133, 134, 135] rfl (by decide +kernel)
set_option maxRecDepth 20000 in
theorem gX4_step_X4_branch : GoodIn wsX4_step (wsV RX4 180 RX4 yX4_branch wsX4_branch) := goodIn_app (goodIn_of _ (by decide +kernel)) ggX4_step_X4_branch
set_option maxRecDepth 20000 in
theorem ggX4_step_X4_low : GoodIn wsX4_step wsX4_low := goodIn_r _ [37, 4, 38, 39, 28, 40, 41, 42, 43, 44, 45, 46, 16, 47, 13, 48, 49, 1, 50, 51, 52, 53, 54, 55, 56, 57, 58, 59, 60, 61, 62, 63, 64, 65, 66, 67, 68, 69, 70, 71, 72, 73, 74, 75, 76, 77, 78, 79, 80, 3, 81, 82, 83, 84, 119, 120, 121, 122, 123, 124, 125, 126, 127, 128, 129, 130, 131, 132, 133, 134, 135] rfl (by decide +kernel)
set_option maxRecDepth 20000 in
theorem gX4_step_X4_low : GoodIn wsX4_step (wsV RX4 184 RX4 yX4_low wsX4_low) := goodIn_app (goodIn_of _ (by decide +kernel)) ggX4_step_X4_low
set_option maxRecDepth 20000 in
theorem ggX4_step_X4_choose : GoodIn wsX4_step wsX4_choose := goodIn_r _ [88, 4, 31, 32, 16, 33, 81, 82, 83, 84, 1, 28, 13, 50, 51, 52, 53, 76, 77, 78, 79, 80, 3, 119, 120, 121, 122, 123, 124, 125, 126, 127, 128, 129, 130, 131, 132, 133, 134, 135] rfl (by decide +kernel)
set_option maxRecDepth 20000 in
theorem gX4_step_X4_choose : GoodIn wsX4_step (wsV RX4 188 RX4 yX4_choose wsX4_choose) := goodIn_app (goodIn_of _ (by decide +kernel)) ggX4_step_X4_choose
set_option maxRecDepth 20000 in
theorem ggX4_step_X4_access : GoodIn wsX4_step wsX4_access := goodIn_r _ [92, 4, 1, 28, 29, 93, 50, 51, 52, 16, 53, 76, 77, 78, 79, 80, 3, 81, 82, 83, 84, 13, 14, 15, 17, 18, 19, 20, 21, 22, 23, 94, 95, 96, 58, 59, 60, 61, 38, 62, 97, 98, 99, 100, 119, 120, 121, 122, 123, 124, 125, 126, 127, 128, 129, 130, 131, 132, 133, 134, 135] rfl (by decide +kernel)
set_option maxRecDepth 20000 in
theorem gX4_step_X4_access : GoodIn wsX4_step (wsV RX4 191 RX4 yX4_access wsX4_access) := goodIn_app (goodIn_of _ (by decide +kernel)) ggX4_step_X4_access
set_option maxRecDepth 20000 in
theorem ggX4_step_X4_bits : GoodIn wsX4_step wsX4_bits := goodIn_r _ [104, 4, 42, 38, 50, 51, 52, 16, 53, 105, 106, 107, 108, 109, 110, 111, 73, 74, 75, 68, 76, 77, 78, 79, 80, 3, 81, 82, 83, 84, 1, 28, 13, 119, 120, 121, 122, 123, 124, 125, 126, 127, 128, 129, 130, 131, 132, 133, 134, 135] rfl (by decide +kernel)
set_option maxRecDepth 20000 in
theorem gX4_step_X4_bits : GoodIn wsX4_step (wsV RX4 194 RX4 yX4_bits wsX4_bits) := goodIn_app (goodIn_of _ (by decide +kernel)) ggX4_step_X4_bits
set_option maxRecDepth 20000 in
theorem ggX4_step_X4_high : GoodIn wsX4_step wsX4_high := goodIn_r _ [115, 5, 116, 13, 4, 42, 1, 28, 117, 118, 38, 76, 77, 78, 16, 79, 80, 3, 81, 82, 83, 84, 50, 51, 52, 53, 119, 120, 121, 122, 123, 124, 125, 126, 127, 128, 129, 130, 131, 132, 133, 134, 135] rfl (by decide +kernel)
set_option maxRecDepth 20000 in
theorem gX4_step_X4_high : GoodIn wsX4_step (wsV RX4 197 RX4 yX4_high wsX4_high) := goodIn_app (goodIn_of _ (by decide +kernel)) ggX4_step_X4_high
theorem dX4_step_0 : decode cX4_step 0 = .ok (.aload_n 0, 1) := by decide +kernel
theorem dX4_step_1 : decode cX4_step 1 = .ok (.getfield 162, 3) := by decide +kernel
theorem dX4_step_4 : decode cX4_step 4 = .ok (.invokestatic 166, 3) := by decide +kernel
theorem dX4_step_7 : decode cX4_step 7 = .ok (.ifCond .eq 5, 3) := by decide +kernel
theorem dX4_step_10 : decode cX4_step 10 = .ok (.iconst 3, 1) := by decide +kernel
theorem dX4_step_11 : decode cX4_step 11 = .ok (.ireturn, 1) := by decide +kernel
theorem dX4_step_12 : decode cX4_step 12 = .ok (.aload_n 0, 1) := by decide +kernel
theorem dX4_step_13 : decode cX4_step 13 = .ok (.aload_n 0, 1) := by decide +kernel
theorem dX4_step_14 : decode cX4_step 14 = .ok (.getfield 162, 3) := by decide +kernel
theorem dX4_step_17 : decode cX4_step 17 = .ok (.iconst 4, 1) := by decide +kernel
theorem dX4_step_18 : decode cX4_step 18 = .ok (.invokevirtual 170, 3) := by decide +kernel
theorem dX4_step_21 : decode cX4_step 21 = .ok (.l2i, 1) := by decide +kernel
theorem dX4_step_22 : decode cX4_step 22 = .ok (.istore_n 1, 1) := by decide +kernel
theorem dX4_step_23 : decode cX4_step 23 = .ok (.iload_n 1, 1) := by decide +kernel
theorem dX4_step_24 : decode cX4_step 24 = .ok (.bipush 24, 2) := by decide +kernel
theorem dX4_step_26 : decode cX4_step 26 = .ok (.iushr, 1) := by decide +kernel
theorem dX4_step_27 : decode cX4_step 27 = .ok (.istore_n 2, 1) := by decide +kernel
theorem dX4_step_28 : decode cX4_step 28 = .ok (.iload_n 1, 1) := by decide +kernel
theorem dX4_step_29 : decode cX4_step 29 = .ok (.bipush 16, 2) := by decide +kernel
theorem dX4_step_31 : decode cX4_step 31 = .ok (.ishr, 1) := by decide +kernel
theorem dX4_step_32 : decode cX4_step 32 = .ok (.sipush 255, 3) := by decide +kernel
theorem dX4_step_35 : decode cX4_step 35 = .ok (.iand, 1) := by decide +kernel
theorem dX4_step_36 : decode cX4_step 36 = .ok (.istore_n 3, 1) := by decide +kernel
theorem dX4_step_37 : decode cX4_step 37 = .ok (.iload_n 1, 1) := by decide +kernel
theorem dX4_step_38 : decode cX4_step 38 = .ok (.bipush 8, 2) := by decide +kernel
theorem dX4_step_40 : decode cX4_step 40 = .ok (.ishr, 1) := by decide +kernel
theorem dX4_step_41 : decode cX4_step 41 = .ok (.sipush 255, 3) := by decide +kernel
theorem dX4_step_44 : decode cX4_step 44 = .ok (.iand, 1) := by decide +kernel
theorem dX4_step_45 : decode cX4_step 45 = .ok (.istore 4, 2) := by decide +kernel
theorem dX4_step_47 : decode cX4_step 47 = .ok (.iload_n 1, 1) := by decide +kernel
theorem dX4_step_48 : decode cX4_step 48 = .ok (.sipush 255, 3) := by decide +kernel
theorem dX4_step_51 : decode cX4_step 51 = .ok (.iand, 1) := by decide +kernel
theorem dX4_step_52 : decode cX4_step 52 = .ok (.istore 5, 2) := by decide +kernel
theorem dX4_step_54 : decode cX4_step 54 = .ok (.aload_n 0, 1) := by decide +kernel
theorem dX4_step_55 : decode cX4_step 55 = .ok (.ldc2_w 174, 3) := by decide +kernel
theorem dX4_step_58 : decode cX4_step 58 = .ok (.aload_n 0, 1) := by decide +kernel
theorem dX4_step_59 : decode cX4_step 59 = .ok (.getfield 176, 3) := by decide +kernel
theorem dX4_step_62 : decode cX4_step 62 = .ok (.lmul, 1) := by decide +kernel
theorem dX4_step_63 : decode cX4_step 63 = .ok (.aload_n 0, 1) := by decide +kernel
theorem dX4_step_64 : decode cX4_step 64 = .ok (.getfield 7, 3) := by decide +kernel
theorem dX4_step_67 : decode cX4_step 67 = .ok (.iload 4, 2) := by decide +kernel
theorem dX4_step_69 : decode cX4_step 69 = .ok (.laload, 1) := by decide +kernel
theorem dX4_step_70 : decode cX4_step 70 = .ok (.ladd, 1) := by decide +kernel
theorem dX4_step_71 : decode cX4_step 71 = .ok (.putfield 176, 3) := by decide +kernel
theorem dX4_step_74 : decode cX4_step 74 = .ok (.aload_n 0, 1) := by decide +kernel
theorem dX4_step_75 : decode cX4_step 75 = .ok (.ldc2_w 174, 3) := by decide +kernel
theorem dX4_step_78 : decode cX4_step 78 = .ok (.aload_n 0, 1) := by decide +kernel
theorem dX4_step_79 : decode cX4_step 79 = .ok (.getfield 176, 3) := by decide +kernel
theorem dX4_step_82 : decode cX4_step 82 = .ok (.lmul, 1) := by decide +kernel
theorem dX4_step_83 : decode cX4_step 83 = .ok (.aload_n 0, 1) := by decide +kernel
theorem dX4_step_84 : decode cX4_step 84 = .ok (.getfield 7, 3) := by decide +kernel
theorem dX4_step_87 : decode cX4_step 87 = .ok (.iload 5, 2) := by decide +kernel
theorem dX4_step_89 : decode cX4_step 89 = .ok (.laload, 1) := by decide +kernel
theorem dX4_step_90 : decode cX4_step 90 = .ok (.ladd, 1) := by decide +kernel
theorem dX4_step_91 : decode cX4_step 91 = .ok (.putfield 176, 3) := by decide +kernel
theorem dX4_step_94 : decode cX4_step 94 = .ok (.aload_n 0, 1) := by decide +kernel
theorem dX4_step_95 : decode cX4_step 95 = .ok (.ldc2_w 174, 3) := by decide +kernel
theorem dX4_step_98 : decode cX4_step 98 = .ok (.aload_n 0, 1) := by decide +kernel
theorem dX4_step_99 : decode cX4_step 99 = .ok (.getfield 176, 3) := by decide +kernel
theorem dX4_step_102 : decode cX4_step 102 = .ok (.lmul, 1) := by decide +kernel
theorem dX4_step_103 : decode cX4_step 103 = .ok (.aload_n 0, 1) := by decide +kernel
theorem dX4_step_104 : decode cX4_step 104 = .ok (.getfield 7, 3) := by decide +kernel
theorem dX4_step_107 : decode cX4_step 107 = .ok (.iload_n 3, 1) := by decide +kernel
theorem dX4_step_108 : decode cX4_step 108 = .ok (.laload, 1) := by decide +kernel
theorem dX4_step_109 : decode cX4_step 109 = .ok (.ladd, 1) := by decide +kernel
theorem dX4_step_110 : decode cX4_step 110 = .ok (.putfield 176, 3) := by decide +kernel
theorem dX4_step_113 : decode cX4_step 113 = .ok (.iload_n 2, 1) := by decide +kernel
theorem dX4_step_114 : decode cX4_step 114 = .ok (.bipush 64, 2) := by decide +kernel
theorem dX4_step_116 : decode cX4_step 116 = .ok (.if_icmp .lt 22, 3) := by decide +kernel
theorem dX4_step_119 : decode cX4_step 119 = .ok (.iload_n 2, 1) := by decide +kernel
theorem dX4_step_120 : decode cX4_step 120 = .ok (.bipush 96, 2) := by decide +kernel
theorem dX4_step_122 : decode cX4_step 122 = .ok (.if_icmp .ge 16, 3) := by decide +kernel
theorem dX4_step_125 : decode cX4_step 125 = .ok (.aload_n 0, 1) := by decide +kernel
theorem dX4_step_126 : decode cX4_step 126 = .ok (.iload_n 2, 1) := by decide +kernel
theorem dX4_step_127 : decode cX4_step 127 = .ok (.iload_n 3, 1) := by decide +kernel
theorem dX4_step_128 : decode cX4_step 128 = .ok (.iload_n 1, 1) := by decide +kernel
theorem dX4_step_129 : decode cX4_step 129 = .ok (.ldc 179, 2) := by decide +kernel
theorem dX4_step_131 : decode cX4_step 131 = .ok (.iand, 1) := by decide +kernel
theorem dX4_step_132 : decode cX4_step 132 = .ok (.invokevirtual 180, 3) := by decide +kernel
theorem dX4_step_135 : decode cX4_step 135 = .ok (.goto 93, 3) := by decide +kernel
theorem dX4_step_138 : decode cX4_step 138 = .ok (.iload_n 2, 1) := by decide +kernel
theorem dX4_step_139 : decode cX4_step 139 = .ok (.bipush 64, 2) := by decide +kernel
theorem dX4_step_141 : decode cX4_step 141 = .ok (.if_icmp .ge 16, 3) := by decide +kernel
theorem dX4_step_144 : decode cX4_step 144 = .ok (.aload_n 0, 1) := by decide +kernel
theorem dX4_step_145 : decode cX4_step 145 = .ok (.iload_n 2, 1) := by decide +kernel
theorem dX4_step_146 : decode cX4_step 146 = .ok (.iload_n 3, 1) := by decide +kernel
theorem dX4_step_147 : decode cX4_step 147 = .ok (.iload 4, 2) := by decide +kernel
theorem dX4_step_149 : decode cX4_step 149 = .ok (.iload 5, 2) := by decide +kernel
theorem dX4_step_151 : decode cX4_step 151 = .ok (.invokevirtual 184, 3) := by decide +kernel
theorem dX4_step_154 : decode cX4_step 154 = .ok (.goto 74, 3) := by decide +kernel
theorem dX4_step_157 : decode cX4_step 157 = .ok (.iload_n 2, 1) := by decide +kernel
theorem dX4_step_158 : decode cX4_step 158 = .ok (.sipush 128, 3) := by decide +kernel
theorem dX4_step_161 : decode cX4_step 161 = .ok (.if_icmp .ge 16, 3) := by decide +kernel
theorem dX4_step_164 : decode cX4_step 164 = .ok (.aload_n 0, 1) := by decide +kernel
theorem dX4_step_165 : decode cX4_step 165 = .ok (.iload_n 2, 1) := by decide +kernel
theorem dX4_step_166 : decode cX4_step 166 = .ok (.iload_n 3, 1) := by decide +kernel
theorem dX4_step_167 : decode cX4_step 167 = .ok (.iload 4, 2) := by decide +kernel
theorem dX4_step_169 : decode cX4_step 169 = .ok (.iload 5, 2) := by decide +kernel
theorem dX4_step_171 : decode cX4_step 171 = .ok (.invokevirtual 188, 3) := by decide +kernel
theorem dX4_step_174 : decode cX4_step 174 = .ok (.goto 54, 3) := by decide +kernel
theorem dX4_step_177 : decode cX4_step 177 = .ok (.iload_n 2, 1) := by decide +kernel
theorem dX4_step_178 : decode cX4_step 178 = .ok (.sipush 192, 3) := by decide +kernel
theorem dX4_step_181 : decode cX4_step 181 = .ok (.if_icmp .ge 16, 3) := by decide +kernel
theorem dX4_step_184 : decode cX4_step 184 = .ok (.aload_n 0, 1) := by decide +kernel
theorem dX4_step_185 : decode cX4_step 185 = .ok (.iload_n 2, 1) := by decide +kernel
theorem dX4_step_186 : decode cX4_step 186 = .ok (.iload_n 3, 1) := by decide +kernel
theorem dX4_step_187 : decode cX4_step 187 = .ok (.iload 4, 2) := by decide +kernel
theorem dX4_step_189 : decode cX4_step 189 = .ok (.iload 5, 2) := by decide +kernel
theorem dX4_step_191 : decode cX4_step 191 = .ok (.invokevirtual 191, 3) := by decide +kernel
theorem dX4_step_194 : decode cX4_step 194 = .ok (.goto 34, 3) := by decide +kernel
theorem dX4_step_197 : decode cX4_step 197 = .ok (.iload_n 2, 1) := by decide +kernel
theorem dX4_step_198 : decode cX4_step 198 = .ok (.sipush 224, 3) := by decide +kernel
theorem dX4_step_201 : decode cX4_step 201 = .ok (.if_icmp .ge 16, 3) := by decide +kernel
theorem dX4_step_204 : decode cX4_step 204 = .ok (.aload_n 0, 1) := by decide +kernel
theorem dX4_step_205 : decode cX4_step 205 = .ok (.iload_n 2, 1) := by decide +kernel
theorem dX4_step_206 : decode cX4_step 206 = .ok (.iload_n 3, 1) := by decide +kernel
theorem dX4_step_207 : decode cX4_step 207 = .ok (.iload 4, 2) := by decide +kernel
theorem dX4_step_209 : decode cX4_step 209 = .ok (.iload 5, 2) := by decide +kernel
theorem dX4_step_211 : decode cX4_step 211 = .ok (.invokevirtual 194, 3) := by decide +kernel
theorem dX4_step_214 : decode cX4_step 214 = .ok (.goto 14, 3) := by decide +kernel
theorem dX4_step_217 : decode cX4_step 217 = .ok (.aload_n 0, 1) := by decide +kernel
theorem dX4_step_218 : decode cX4_step 218 = .ok (.iload_n 2, 1) := by decide +kernel
theorem dX4_step_219 : decode cX4_step 219 = .ok (.iload_n 3, 1) := by decide +kernel
theorem dX4_step_220 : decode cX4_step 220 = .ok (.iload 4, 2) := by decide +kernel
theorem dX4_step_222 : decode cX4_step 222 = .ok (.iload 5, 2) := by decide +kernel
theorem dX4_step_224 : decode cX4_step 224 = .ok (.iload_n 1, 1) := by decide +kernel
theorem dX4_step_225 : decode cX4_step 225 = .ok (.invokevirtual 197, 3) := by decide +kernel
theorem dX4_step_228 : decode cX4_step 228 = .ok (.istore 6, 2) := by decide +kernel
theorem dX4_step_230 : decode cX4_step 230 = .ok (.iload 6, 2) := by decide +kernel
theorem dX4_step_232 : decode cX4_step 232 = .ok (.iconst 2, 1) := by decide +kernel
theorem dX4_step_233 : decode cX4_step 233 = .ok (.if_icmp .eq 9, 3) := by decide +kernel
theorem dX4_step_236 : decode cX4_step 236 = .ok (.iload 6, 2) := by decide +kernel
theorem dX4_step_238 : decode cX4_step 238 = .ok (.iconst 3, 1) := by decide +kernel
theorem dX4_step_239 : decode cX4_step 239 = .ok (.if_icmp .ne 6, 3) := by decide +kernel
theorem dX4_step_242 : decode cX4_step 242 = .ok (.iload 6, 2) := by decide +kernel
theorem dX4_step_244 : decode cX4_step 244 = .ok (.ireturn, 1) := by decide +kernel
theorem dX4_step_245 : decode cX4_step 245 = .ok (.aload_n 0, 1) := by decide +kernel
theorem dX4_step_246 : decode cX4_step 246 = .ok (.getfield 16, 3) := by decide +kernel
theorem dX4_step_249 : decode cX4_step 249 = .ok (.iload_n 2, 1) := by decide +kernel
theorem dX4_step_250 : decode cX4_step 250 = .ok (.dup2, 1) := by decide +kernel
theorem dX4_step_251 : decode cX4_step 251 = .ok (.laload, 1) := by decide +kernel
theorem dX4_step_252 : decode cX4_step 252 = .ok (.lconst 1, 1) := by decide +kernel
theorem dX4_step_253 : decode cX4_step 253 = .ok (.ladd, 1) := by decide +kernel
theorem dX4_step_254 : decode cX4_step 254 = .ok (.lastore, 1) := by decide +kernel
theorem dX4_step_255 : decode cX4_step 255 = .ok (.aload_n 0, 1) := by decide +kernel
theorem dX4_step_256 : decode cX4_step 256 = .ok (.aload_n 0, 1) := by decide +kernel
theorem dX4_step_257 : decode cX4_step 257 = .ok (.getfield 16, 3) := by decide +kernel
theorem dX4_step_260 : decode cX4_step 260 = .ok (.iload_n 2, 1) := by decide +kernel
theorem dX4_step_261 : decode cX4_step 261 = .ok (.laload, 1) := by decide +kernel
theorem dX4_step_262 : decode cX4_step 262 = .ok (.putfield 201, 3) := by decide +kernel
theorem dX4_step_265 : decode cX4_step 265 = .ok (.aload_n 0, 1) := by decide +kernel
theorem dX4_step_266 : decode cX4_step 266 = .ok (.dup, 1) := by decide +kernel
theorem dX4_step_267 : decode cX4_step 267 = .ok (.getfield 204, 3) := by decide +kernel
theorem dX4_step_270 : decode cX4_step 270 = .ok (.iload_n 2, 1) := by decide +kernel
theorem dX4_step_271 : decode cX4_step 271 = .ok (.bipush 24, 2) := by decide +kernel
theorem dX4_step_273 : decode cX4_step 273 = .ok (.if_icmp .lt 15, 3) := by decide +kernel
theorem dX4_step_276 : decode cX4_step 276 = .ok (.iload_n 2, 1) := by decide +kernel
theorem dX4_step_277 : decode cX4_step 277 = .ok (.bipush 28, 2) := by decide +kernel
theorem dX4_step_279 : decode cX4_step 279 = .ok (.if_icmp .ge 9, 3) := by decide +kernel
theorem dX4_step_282 : decode cX4_step 282 = .ok (.ldc2_w 207, 3) := by decide +kernel
theorem dX4_step_285 : decode cX4_step 285 = .ok (.goto 65, 3) := by decide +kernel
theorem dX4_step_288 : decode cX4_step 288 = .ok (.iload_n 2, 1) := by decide +kernel
theorem dX4_step_289 : decode cX4_step 289 = .ok (.bipush 28, 2) := by decide +kernel
theorem dX4_step_291 : decode cX4_step 291 = .ok (.if_icmp .lt 15, 3) := by decide +kernel
theorem dX4_step_294 : decode cX4_step 294 = .ok (.iload_n 2, 1) := by decide +kernel
theorem dX4_step_295 : decode cX4_step 295 = .ok (.bipush 32, 2) := by decide +kernel
theorem dX4_step_297 : decode cX4_step 297 = .ok (.if_icmp .ge 9, 3) := by decide +kernel
theorem dX4_step_300 : decode cX4_step 300 = .ok (.ldc2_w 209, 3) := by decide +kernel
theorem dX4_step_303 : decode cX4_step 303 = .ok (.goto 47, 3) := by decide +kernel
theorem dX4_step_306 : decode cX4_step 306 = .ok (.iload_n 2, 1) := by decide +kernel
theorem dX4_step_307 : decode cX4_step 307 = .ok (.sipush 158, 3) := by decide +kernel
theorem dX4_step_310 : decode cX4_step 310 = .ok (.if_icmp .eq 10, 3) := by decide +kernel
theorem dX4_step_313 : decode cX4_step 313 = .ok (.iload_n 2, 1) := by decide +kernel
theorem dX4_step_314 : decode cX4_step 314 = .ok (.sipush 159, 3) := by decide +kernel
theorem dX4_step_317 : decode cX4_step 317 = .ok (.if_icmp .ne 9, 3) := by decide +kernel
theorem dX4_step_320 : decode cX4_step 320 = .ok (.ldc2_w 211, 3) := by decide +kernel
theorem dX4_step_323 : decode cX4_step 323 = .ok (.goto 27, 3) := by decide +kernel
theorem dX4_step_326 : decode cX4_step 326 = .ok (.iload_n 2, 1) := by decide +kernel
theorem dX4_step_327 : decode cX4_step 327 = .ok (.ifCond .ne 9, 3) := by decide +kernel
theorem dX4_step_330 : decode cX4_step 330 = .ok (.ldc2_w 213, 3) := by decide +kernel
theorem dX4_step_333 : decode cX4_step 333 = .ok (.goto 17, 3) := by decide +kernel
theorem dX4_step_336 : decode cX4_step 336 = .ok (.aload_n 0, 1) := by decide +kernel
theorem dX4_step_337 : decode cX4_step 337 = .ok (.getfield 215, 3) := by decide +kernel
theorem dX4_step_340 : decode cX4_step 340 = .ok (.ifCond .eq 9, 3) := by decide +kernel
theorem dX4_step_343 : decode cX4_step 343 = .ok (.ldc2_w 211, 3) := by decide +kernel
theorem dX4_step_346 : decode cX4_step 346 = .ok (.goto 4, 3) := by decide +kernel
theorem dX4_step_349 : decode cX4_step 349 = .ok (.lconst 1, 1) := by decide +kernel
theorem dX4_step_350 : decode cX4_step 350 = .ok (.ladd, 1) := by decide +kernel
theorem dX4_step_351 : decode cX4_step 351 = .ok (.putfield 204, 3) := by decide +kernel
theorem dX4_step_354 : decode cX4_step 354 = .ok (.iload 6, 2) := by decide +kernel
theorem dX4_step_356 : decode cX4_step 356 = .ok (.ireturn, 1) := by decide +kernel
set_option maxRecDepth 20000 in
theorem ggX4_branch_X4_holds : GoodIn wsX4_branch wsX4_holds := goodIn_r _ [10] rfl (by decide +kernel)
set_option maxRecDepth 20000 in
theorem gX4_branch_X4_holds : GoodIn wsX4_branch (va_wsS RX4 219 yX4_holds wsX4_holds) := goodIn_app (goodIn_of _ (by decide +kernel)) ggX4_branch_X4_holds
theorem dX4_branch_0 : decode cX4_branch 0 = .ok (.iload_n 1, 1) := by decide +kernel
theorem dX4_branch_1 : decode cX4_branch 1 = .ok (.iconst 1, 1) := by decide +kernel
theorem dX4_branch_2 : decode cX4_branch 2 = .ok (.ishr, 1) := by decide +kernel
theorem dX4_branch_3 : decode cX4_branch 3 = .ok (.bipush 7, 2) := by decide +kernel
theorem dX4_branch_5 : decode cX4_branch 5 = .ok (.iand, 1) := by decide +kernel
theorem dX4_branch_6 : decode cX4_branch 6 = .ok (.aload_n 0, 1) := by decide +kernel
theorem dX4_branch_7 : decode cX4_branch 7 = .ok (.getfield 7, 3) := by decide +kernel
theorem dX4_branch_10 : decode cX4_branch 10 = .ok (.iload_n 2, 1) := by decide +kernel
theorem dX4_branch_11 : decode cX4_branch 11 = .ok (.laload, 1) := by decide +kernel
theorem dX4_branch_12 : decode cX4_branch 12 = .ok (.invokestatic 219, 3) := by decide +kernel
theorem dX4_branch_15 : decode cX4_branch 15 = .ok (.istore 4, 2) := by decide +kernel
theorem dX4_branch_17 : decode cX4_branch 17 = .ok (.aload_n 0, 1) := by decide +kernel
theorem dX4_branch_18 : decode cX4_branch 18 = .ok (.iload 4, 2) := by decide +kernel
theorem dX4_branch_20 : decode cX4_branch 20 = .ok (.iload_n 1, 1) := by decide +kernel
theorem dX4_branch_21 : decode cX4_branch 21 = .ok (.bipush 80, 2) := by decide +kernel
theorem dX4_branch_23 : decode cX4_branch 23 = .ok (.if_icmp .ge 7, 3) := by decide +kernel
theorem dX4_branch_26 : decode cX4_branch 26 = .ok (.iconst 1, 1) := by decide +kernel
theorem dX4_branch_27 : decode cX4_branch 27 = .ok (.goto 4, 3) := by decide +kernel
theorem dX4_branch_30 : decode cX4_branch 30 = .ok (.iconst 0, 1) := by decide +kernel
theorem dX4_branch_31 : decode cX4_branch 31 = .ok (.if_icmp .ne 7, 3) := by decide +kernel
theorem dX4_branch_34 : decode cX4_branch 34 = .ok (.iconst 1, 1) := by decide +kernel
theorem dX4_branch_35 : decode cX4_branch 35 = .ok (.goto 4, 3) := by decide +kernel
theorem dX4_branch_38 : decode cX4_branch 38 = .ok (.iconst 0, 1) := by decide +kernel
theorem dX4_branch_39 : decode cX4_branch 39 = .ok (.putfield 215, 3) := by decide +kernel
theorem dX4_branch_42 : decode cX4_branch 42 = .ok (.aload_n 0, 1) := by decide +kernel
theorem dX4_branch_43 : decode cX4_branch 43 = .ok (.dup, 1) := by decide +kernel
theorem dX4_branch_44 : decode cX4_branch 44 = .ok (.getfield 162, 3) := by decide +kernel
theorem dX4_branch_47 : decode cX4_branch 47 = .ok (.iload 4, 2) := by decide +kernel
theorem dX4_branch_49 : decode cX4_branch 49 = .ok (.ifCond .ne 9, 3) := by decide +kernel
theorem dX4_branch_52 : decode cX4_branch 52 = .ok (.ldc2_w 223, 3) := by decide +kernel
theorem dX4_branch_55 : decode cX4_branch 55 = .ok (.goto 27, 3) := by decide +kernel
theorem dX4_branch_58 : decode cX4_branch 58 = .ok (.iload_n 1, 1) := by decide +kernel
theorem dX4_branch_59 : decode cX4_branch 59 = .ok (.iconst 1, 1) := by decide +kernel
theorem dX4_branch_60 : decode cX4_branch 60 = .ok (.iand, 1) := by decide +kernel
theorem dX4_branch_61 : decode cX4_branch 61 = .ok (.ifCond .ne 12, 3) := by decide +kernel
theorem dX4_branch_64 : decode cX4_branch 64 = .ok (.ldc2_w 223, 3) := by decide +kernel
theorem dX4_branch_67 : decode cX4_branch 67 = .ok (.iload_n 3, 1) := by decide +kernel
theorem dX4_branch_68 : decode cX4_branch 68 = .ok (.i2l, 1) := by decide +kernel
theorem dX4_branch_69 : decode cX4_branch 69 = .ok (.lmul, 1) := by decide +kernel
theorem dX4_branch_70 : decode cX4_branch 70 = .ok (.goto 12, 3) := by decide +kernel
theorem dX4_branch_73 : decode cX4_branch 73 = .ok (.ldc2_w 225, 3) := by decide +kernel
theorem dX4_branch_76 : decode cX4_branch 76 = .ok (.ldc 227, 2) := by decide +kernel
theorem dX4_branch_78 : decode cX4_branch 78 = .ok (.iload_n 3, 1) := by decide +kernel
theorem dX4_branch_79 : decode cX4_branch 79 = .ok (.isub, 1) := by decide +kernel
theorem dX4_branch_80 : decode cX4_branch 80 = .ok (.i2l, 1) := by decide +kernel
theorem dX4_branch_81 : decode cX4_branch 81 = .ok (.lmul, 1) := by decide +kernel
theorem dX4_branch_82 : decode cX4_branch 82 = .ok (.ladd, 1) := by decide +kernel
theorem dX4_branch_83 : decode cX4_branch 83 = .ok (.putfield 162, 3) := by decide +kernel
theorem dX4_branch_86 : decode cX4_branch 86 = .ok (.iconst 0, 1) := by decide +kernel
theorem dX4_branch_87 : decode cX4_branch 87 = .ok (.ireturn, 1) := by decide +kernel
theorem dX4_number_0 : decode cX4_number 0 = .ok (.iload_n 1, 1) := by decide +kernel
theorem dX4_number_1 : decode cX4_number 1 = .ok (.iconst 1, 1) := by decide +kernel
theorem dX4_number_2 : decode cX4_number 2 = .ok (.iand, 1) := by decide +kernel
theorem dX4_number_3 : decode cX4_number 3 = .ok (.iconst 1, 1) := by decide +kernel
theorem dX4_number_4 : decode cX4_number 4 = .ok (.if_icmp .ne 8, 3) := by decide +kernel
theorem dX4_number_7 : decode cX4_number 7 = .ok (.iload_n 2, 1) := by decide +kernel
theorem dX4_number_8 : decode cX4_number 8 = .ok (.i2l, 1) := by decide +kernel
theorem dX4_number_9 : decode cX4_number 9 = .ok (.goto 9, 3) := by decide +kernel
theorem dX4_number_12 : decode cX4_number 12 = .ok (.aload_n 0, 1) := by decide +kernel
theorem dX4_number_13 : decode cX4_number 13 = .ok (.getfield 7, 3) := by decide +kernel
theorem dX4_number_16 : decode cX4_number 16 = .ok (.iload_n 2, 1) := by decide +kernel
theorem dX4_number_17 : decode cX4_number 17 = .ok (.laload, 1) := by decide +kernel
theorem dX4_number_18 : decode cX4_number 18 = .ok (.lreturn, 1) := by decide +kernel
set_option maxRecDepth 20000 in
theorem ggX4_done_X4_on : GoodIn wsX4_done wsX4_on := goodIn_r _ [8, 9, 10, 11, 12, 13, 14, 15, 16, 17, 18, 19, 20, 21, 22, 23, 24, 25, 26, 27, 28] rfl (by decide +kernel)
set_option maxRecDepth 20000 in
theorem gX4_done_X4_on : GoodIn wsX4_done (wsV RX4 230 RX4 yX4_on wsX4_on) := goodIn_app (goodIn_of _ (by decide +kernel)) ggX4_done_X4_on
theorem dX4_done_0 : decode cX4_done 0 = .ok (.aload_n 0, 1) := by decide +kernel
theorem dX4_done_1 : decode cX4_done 1 = .ok (.ldc2_w 228, 3) := by decide +kernel
theorem dX4_done_4 : decode cX4_done 4 = .ok (.aload_n 0, 1) := by decide +kernel
theorem dX4_done_5 : decode cX4_done 5 = .ok (.getfield 176, 3) := by decide +kernel
theorem dX4_done_8 : decode cX4_done 8 = .ok (.lmul, 1) := by decide +kernel
theorem dX4_done_9 : decode cX4_done 9 = .ok (.aload_n 0, 1) := by decide +kernel
theorem dX4_done_10 : decode cX4_done 10 = .ok (.getfield 7, 3) := by decide +kernel
theorem dX4_done_13 : decode cX4_done 13 = .ok (.iload_n 1, 1) := by decide +kernel
theorem dX4_done_14 : decode cX4_done 14 = .ok (.laload, 1) := by decide +kernel
theorem dX4_done_15 : decode cX4_done 15 = .ok (.ladd, 1) := by decide +kernel
theorem dX4_done_16 : decode cX4_done 16 = .ok (.putfield 176, 3) := by decide +kernel
theorem dX4_done_19 : decode cX4_done 19 = .ok (.aload_n 0, 1) := by decide +kernel
theorem dX4_done_20 : decode cX4_done 20 = .ok (.getfield 7, 3) := by decide +kernel
theorem dX4_done_23 : decode cX4_done 23 = .ok (.iload_n 1, 1) := by decide +kernel
theorem dX4_done_24 : decode cX4_done 24 = .ok (.lload_n 2, 1) := by decide +kernel
theorem dX4_done_25 : decode cX4_done 25 = .ok (.lastore, 1) := by decide +kernel
theorem dX4_done_26 : decode cX4_done 26 = .ok (.aload_n 0, 1) := by decide +kernel
theorem dX4_done_27 : decode cX4_done 27 = .ok (.invokevirtual 230, 3) := by decide +kernel
theorem dX4_done_30 : decode cX4_done 30 = .ok (.ireturn, 1) := by decide +kernel
theorem dX4_on_0 : decode cX4_on 0 = .ok (.aload_n 0, 1) := by decide +kernel
theorem dX4_on_1 : decode cX4_on 1 = .ok (.dup, 1) := by decide +kernel
theorem dX4_on_2 : decode cX4_on 2 = .ok (.getfield 162, 3) := by decide +kernel
theorem dX4_on_5 : decode cX4_on 5 = .ok (.ldc2_w 223, 3) := by decide +kernel
theorem dX4_on_8 : decode cX4_on 8 = .ok (.ladd, 1) := by decide +kernel
theorem dX4_on_9 : decode cX4_on 9 = .ok (.putfield 162, 3) := by decide +kernel
theorem dX4_on_12 : decode cX4_on 12 = .ok (.aload_n 0, 1) := by decide +kernel
theorem dX4_on_13 : decode cX4_on 13 = .ok (.iconst 0, 1) := by decide +kernel
theorem dX4_on_14 : decode cX4_on 14 = .ok (.putfield 215, 3) := by decide +kernel
theorem dX4_on_17 : decode cX4_on 17 = .ok (.iconst 0, 1) := by decide +kernel
theorem dX4_on_18 : decode cX4_on 18 = .ok (.ireturn, 1) := by decide +kernel
set_option maxRecDepth 20000 in
theorem ggX4_low_X4_trap : GoodIn wsX4_low wsX4_trap := goodIn_r _ [13, 14, 15, 16, 1, 17, 4, 54, 55, 56, 57, 58, 59, 60, 61, 62, 63, 64, 65, 66, 67, 68, 69, 70] rfl (by decide +kernel)
set_option maxRecDepth 20000 in
theorem gX4_low_X4_trap : GoodIn wsX4_low (wsV RX4 234 RX4 yX4_trap wsX4_trap) := goodIn_app (goodIn_of _ (by decide +kernel)) ggX4_low_X4_trap
set_option maxRecDepth 20000 in
theorem ggX4_low_X4_number : GoodIn wsX4_low wsX4_number := goodIn_r _ [21, 1, 54, 55, 56, 57, 58, 59, 60, 61, 62, 63, 64, 65, 66, 67, 68, 69, 70] rfl (by decide +kernel)
set_option maxRecDepth 20000 in
theorem gX4_low_X4_number : GoodIn wsX4_low (wsV RX4 237 RX4 yX4_number wsX4_number) := goodIn_app (goodIn_of _ (by decide +kernel)) ggX4_low_X4_number
set_option maxRecDepth 20000 in
theorem ggX4_low_X4_upper : GoodIn wsX4_low wsX4_upper := goodIn_r _ [24, 25] rfl (by decide +kernel)
set_option maxRecDepth 20000 in
theorem gX4_low_X4_upper : GoodIn wsX4_low (va_wsS RX4 241 yX4_upper wsX4_upper) := goodIn_app (goodIn_of _ (by decide +kernel)) ggX4_low_X4_upper
set_option maxRecDepth 20000 in
theorem ggX4_low_X4_over : GoodIn wsX4_low wsX4_over := goodIn_r _ [29, 2, 30, 54, 55, 56, 57, 58, 59, 60, 61, 62, 63, 64, 65, 66, 67, 68, 69, 70] rfl (by decide +kernel)
set_option maxRecDepth 20000 in
theorem gX4_low_X4_over : GoodIn wsX4_low (wsV RX4 245 RX4 yX4_over wsX4_over) := goodIn_app (goodIn_of _ (by decide +kernel)) ggX4_low_X4_over
set_option maxRecDepth 20000 in
theorem ggX4_low_X4_quotient : GoodIn wsX4_low wsX4_quotient := goodIn_r _ [34, 2, 35, 36, 7, 26, 27, 28, 12, 29, 30, 54, 55, 56, 57, 58, 59, 60, 61, 62, 63, 64, 65, 66, 67, 68, 69, 70] rfl (by decide +kernel)
set_option maxRecDepth 20000 in
theorem gX4_low_X4_quotient : GoodIn wsX4_low (wsV RX4 249 RX4 yX4_quotient wsX4_quotient) := goodIn_app (goodIn_of _ (by decide +kernel)) ggX4_low_X4_quotient
set_option maxRecDepth 20000 in
theorem ggX4_low_X4_quotientOf : GoodIn wsX4_low wsX4_quotientOf := goodIn_r _ [40, 2, 41, 42, 12, 43, 36, 54, 55, 56, 57, 58, 59, 60, 61, 62, 63, 64, 65, 66, 67, 68, 69, 70] rfl (by decide +kernel)
set_option maxRecDepth 20000 in
theorem gX4_low_X4_quotientOf : GoodIn wsX4_low (wsV RX4 252 RX4 yX4_quotientOf wsX4_quotientOf) := goodIn_app (goodIn_of _ (by decide +kernel)) ggX4_low_X4_quotientOf
set_option maxRecDepth 20000 in
theorem ggX4_low_X4_above : GoodIn wsX4_low wsX4_above := goodIn_r _ [43, 36] rfl (by decide +kernel)
set_option maxRecDepth 20000 in
theorem gX4_low_X4_above : GoodIn wsX4_low (va_wsS RX4 263 yX4_above wsX4_above) := goodIn_app (goodIn_of _ (by decide +kernel)) ggX4_low_X4_above
set_option maxRecDepth 20000 in
theorem ggX4_low_X4_done : GoodIn wsX4_low wsX4_done := goodIn_r _ [47, 48, 49, 1, 50, 51, 52, 12, 53, 17, 4, 14, 54, 55, 56, 57, 58, 59, 60, 61, 62, 63, 64, 65, 66, 67, 68, 69, 70] rfl (by decide +kernel)
set_option maxRecDepth 20000 in
theorem gX4_low_X4_done : GoodIn wsX4_low (wsV RX4 269 RX4 yX4_done wsX4_done) := goodIn_app (goodIn_of _ (by decide +kernel)) ggX4_low_X4_done
theorem dX4_low_0 : decode cX4_low 0 = .ok (.iload_n 1, 1) := by decide +kernel
theorem dX4_low_1 : decode cX4_low 1 = .ok (.ifCond .ne 12, 3) := by decide +kernel
theorem dX4_low_4 : decode cX4_low 4 = .ok (.aload_n 0, 1) := by decide +kernel
theorem dX4_low_5 : decode cX4_low 5 = .ok (.iload_n 2, 1) := by decide +kernel
theorem dX4_low_6 : decode cX4_low 6 = .ok (.iload_n 3, 1) := by decide +kernel
theorem dX4_low_7 : decode cX4_low 7 = .ok (.iload 4, 2) := by decide +kernel
theorem dX4_low_9 : decode cX4_low 9 = .ok (.invokevirtual 234, 3) := by decide +kernel
theorem dX4_low_12 : decode cX4_low 12 = .ok (.ireturn, 1) := by decide +kernel
theorem dX4_low_13 : decode cX4_low 13 = .ok (.iload_n 1, 1) := by decide +kernel
theorem dX4_low_14 : decode cX4_low 14 = .ok (.bipush 24, 2) := by decide +kernel
theorem dX4_low_16 : decode cX4_low 16 = .ok (.if_icmp .ge 5, 3) := by decide +kernel
theorem dX4_low_19 : decode cX4_low 19 = .ok (.iconst 2, 1) := by decide +kernel
theorem dX4_low_20 : decode cX4_low 20 = .ok (.ireturn, 1) := by decide +kernel
theorem dX4_low_21 : decode cX4_low 21 = .ok (.aload_n 0, 1) := by decide +kernel
theorem dX4_low_22 : decode cX4_low 22 = .ok (.getfield 7, 3) := by decide +kernel
theorem dX4_low_25 : decode cX4_low 25 = .ok (.iload_n 3, 1) := by decide +kernel
theorem dX4_low_26 : decode cX4_low 26 = .ok (.laload, 1) := by decide +kernel
theorem dX4_low_27 : decode cX4_low 27 = .ok (.lstore 5, 2) := by decide +kernel
theorem dX4_low_29 : decode cX4_low 29 = .ok (.aload_n 0, 1) := by decide +kernel
theorem dX4_low_30 : decode cX4_low 30 = .ok (.iload_n 1, 1) := by decide +kernel
theorem dX4_low_31 : decode cX4_low 31 = .ok (.iload 4, 2) := by decide +kernel
theorem dX4_low_33 : decode cX4_low 33 = .ok (.invokevirtual 237, 3) := by decide +kernel
theorem dX4_low_36 : decode cX4_low 36 = .ok (.lstore 7, 2) := by decide +kernel
theorem dX4_low_38 : decode cX4_low 38 = .ok (.iload_n 1, 1) := by decide +kernel
theorem dX4_low_39 : decode cX4_low 39 = .ok (.sipush 254, 3) := by decide +kernel
theorem dX4_low_42 : decode cX4_low 42 = .ok (.iand, 1) := by decide +kernel
theorem dX4_low_43 : decode cX4_low 43 = .ok (.tableswitch 649 24 60 #[161, 649, 196, 649, 237, 649, 250, 649, 263, 649, 298, 649, 308, 649, 343, 649, 353, 649, 367, 649, 381, 649, 395, 649, 409, 649, 441, 649, 475, 649, 510, 649, 520, 649, 593, 649, 619], 161) := by decide +kernel
theorem dX4_low_204 : decode cX4_low 204 = .ok (.lload 5, 2) := by decide +kernel
theorem dX4_low_206 : decode cX4_low 206 = .ok (.lload 7, 2) := by decide +kernel
theorem dX4_low_208 : decode cX4_low 208 = .ok (.lmul, 1) := by decide +kernel
theorem dX4_low_209 : decode cX4_low 209 = .ok (.lstore 9, 2) := by decide +kernel
theorem dX4_low_211 : decode cX4_low 211 = .ok (.aload_n 0, 1) := by decide +kernel
theorem dX4_low_212 : decode cX4_low 212 = .ok (.lload 5, 2) := by decide +kernel
theorem dX4_low_214 : decode cX4_low 214 = .ok (.lload 7, 2) := by decide +kernel
theorem dX4_low_216 : decode cX4_low 216 = .ok (.invokestatic 241, 3) := by decide +kernel
theorem dX4_low_219 : decode cX4_low 219 = .ok (.lload 9, 2) := by decide +kernel
theorem dX4_low_221 : decode cX4_low 221 = .ok (.bipush 63, 2) := by decide +kernel
theorem dX4_low_223 : decode cX4_low 223 = .ok (.lshr, 1) := by decide +kernel
theorem dX4_low_224 : decode cX4_low 224 = .ok (.lcmp, 1) := by decide +kernel
theorem dX4_low_225 : decode cX4_low 225 = .ok (.ifCond .eq 7, 3) := by decide +kernel
theorem dX4_low_228 : decode cX4_low 228 = .ok (.iconst 1, 1) := by decide +kernel
theorem dX4_low_229 : decode cX4_low 229 = .ok (.goto 4, 3) := by decide +kernel
theorem dX4_low_232 : decode cX4_low 232 = .ok (.iconst 0, 1) := by decide +kernel
theorem dX4_low_233 : decode cX4_low 233 = .ok (.invokevirtual 245, 3) := by decide +kernel
theorem dX4_low_236 : decode cX4_low 236 = .ok (.goto 479, 3) := by decide +kernel
theorem dX4_low_239 : decode cX4_low 239 = .ok (.lload 5, 2) := by decide +kernel
theorem dX4_low_241 : decode cX4_low 241 = .ok (.lload 7, 2) := by decide +kernel
theorem dX4_low_243 : decode cX4_low 243 = .ok (.lmul, 1) := by decide +kernel
theorem dX4_low_244 : decode cX4_low 244 = .ok (.lstore 9, 2) := by decide +kernel
theorem dX4_low_246 : decode cX4_low 246 = .ok (.aload_n 0, 1) := by decide +kernel
theorem dX4_low_247 : decode cX4_low 247 = .ok (.getfield 13, 3) := by decide +kernel
theorem dX4_low_250 : decode cX4_low 250 = .ok (.iconst 3, 1) := by decide +kernel
theorem dX4_low_251 : decode cX4_low 251 = .ok (.lload 5, 2) := by decide +kernel
theorem dX4_low_253 : decode cX4_low 253 = .ok (.lload 7, 2) := by decide +kernel
theorem dX4_low_255 : decode cX4_low 255 = .ok (.invokestatic 241, 3) := by decide +kernel
theorem dX4_low_258 : decode cX4_low 258 = .ok (.lload 5, 2) := by decide +kernel
theorem dX4_low_260 : decode cX4_low 260 = .ok (.bipush 63, 2) := by decide +kernel
theorem dX4_low_262 : decode cX4_low 262 = .ok (.lshr, 1) := by decide +kernel
theorem dX4_low_263 : decode cX4_low 263 = .ok (.lload 7, 2) := by decide +kernel
theorem dX4_low_265 : decode cX4_low 265 = .ok (.land, 1) := by decide +kernel
theorem dX4_low_266 : decode cX4_low 266 = .ok (.ladd, 1) := by decide +kernel
theorem dX4_low_267 : decode cX4_low 267 = .ok (.lload 7, 2) := by decide +kernel
theorem dX4_low_269 : decode cX4_low 269 = .ok (.bipush 63, 2) := by decide +kernel
theorem dX4_low_271 : decode cX4_low 271 = .ok (.lshr, 1) := by decide +kernel
theorem dX4_low_272 : decode cX4_low 272 = .ok (.lload 5, 2) := by decide +kernel
theorem dX4_low_274 : decode cX4_low 274 = .ok (.land, 1) := by decide +kernel
theorem dX4_low_275 : decode cX4_low 275 = .ok (.ladd, 1) := by decide +kernel
theorem dX4_low_276 : decode cX4_low 276 = .ok (.lastore, 1) := by decide +kernel
theorem dX4_low_277 : decode cX4_low 277 = .ok (.goto 438, 3) := by decide +kernel
theorem dX4_low_280 : decode cX4_low 280 = .ok (.aload_n 0, 1) := by decide +kernel
theorem dX4_low_281 : decode cX4_low 281 = .ok (.lload 5, 2) := by decide +kernel
theorem dX4_low_283 : decode cX4_low 283 = .ok (.lload 7, 2) := by decide +kernel
theorem dX4_low_285 : decode cX4_low 285 = .ok (.invokevirtual 249, 3) := by decide +kernel
theorem dX4_low_288 : decode cX4_low 288 = .ok (.lstore 9, 2) := by decide +kernel
theorem dX4_low_290 : decode cX4_low 290 = .ok (.goto 425, 3) := by decide +kernel
theorem dX4_low_293 : decode cX4_low 293 = .ok (.aload_n 0, 1) := by decide +kernel
theorem dX4_low_294 : decode cX4_low 294 = .ok (.lload 5, 2) := by decide +kernel
theorem dX4_low_296 : decode cX4_low 296 = .ok (.lload 7, 2) := by decide +kernel
theorem dX4_low_298 : decode cX4_low 298 = .ok (.invokevirtual 252, 3) := by decide +kernel
theorem dX4_low_301 : decode cX4_low 301 = .ok (.lstore 9, 2) := by decide +kernel
theorem dX4_low_303 : decode cX4_low 303 = .ok (.goto 412, 3) := by decide +kernel
theorem dX4_low_306 : decode cX4_low 306 = .ok (.lload 5, 2) := by decide +kernel
theorem dX4_low_308 : decode cX4_low 308 = .ok (.lload 7, 2) := by decide +kernel
theorem dX4_low_310 : decode cX4_low 310 = .ok (.ladd, 1) := by decide +kernel
theorem dX4_low_311 : decode cX4_low 311 = .ok (.lstore 9, 2) := by decide +kernel
theorem dX4_low_313 : decode cX4_low 313 = .ok (.aload_n 0, 1) := by decide +kernel
theorem dX4_low_314 : decode cX4_low 314 = .ok (.lload 5, 2) := by decide +kernel
theorem dX4_low_316 : decode cX4_low 316 = .ok (.lload 9, 2) := by decide +kernel
theorem dX4_low_318 : decode cX4_low 318 = .ok (.lxor, 1) := by decide +kernel
theorem dX4_low_319 : decode cX4_low 319 = .ok (.lload 7, 2) := by decide +kernel
theorem dX4_low_321 : decode cX4_low 321 = .ok (.lload 9, 2) := by decide +kernel
theorem dX4_low_323 : decode cX4_low 323 = .ok (.lxor, 1) := by decide +kernel
theorem dX4_low_324 : decode cX4_low 324 = .ok (.land, 1) := by decide +kernel
theorem dX4_low_325 : decode cX4_low 325 = .ok (.lconst 0, 1) := by decide +kernel
theorem dX4_low_326 : decode cX4_low 326 = .ok (.lcmp, 1) := by decide +kernel
theorem dX4_low_327 : decode cX4_low 327 = .ok (.ifCond .ge 7, 3) := by decide +kernel
theorem dX4_low_330 : decode cX4_low 330 = .ok (.iconst 1, 1) := by decide +kernel
theorem dX4_low_331 : decode cX4_low 331 = .ok (.goto 4, 3) := by decide +kernel
theorem dX4_low_334 : decode cX4_low 334 = .ok (.iconst 0, 1) := by decide +kernel
theorem dX4_low_335 : decode cX4_low 335 = .ok (.invokevirtual 245, 3) := by decide +kernel
theorem dX4_low_338 : decode cX4_low 338 = .ok (.goto 377, 3) := by decide +kernel
theorem dX4_low_341 : decode cX4_low 341 = .ok (.lload 5, 2) := by decide +kernel
theorem dX4_low_343 : decode cX4_low 343 = .ok (.lload 7, 2) := by decide +kernel
theorem dX4_low_345 : decode cX4_low 345 = .ok (.ladd, 1) := by decide +kernel
theorem dX4_low_346 : decode cX4_low 346 = .ok (.lstore 9, 2) := by decide +kernel
theorem dX4_low_348 : decode cX4_low 348 = .ok (.goto 367, 3) := by decide +kernel
theorem dX4_low_351 : decode cX4_low 351 = .ok (.lload 5, 2) := by decide +kernel
theorem dX4_low_353 : decode cX4_low 353 = .ok (.lload 7, 2) := by decide +kernel
theorem dX4_low_355 : decode cX4_low 355 = .ok (.lsub, 1) := by decide +kernel
theorem dX4_low_356 : decode cX4_low 356 = .ok (.lstore 9, 2) := by decide +kernel
theorem dX4_low_358 : decode cX4_low 358 = .ok (.aload_n 0, 1) := by decide +kernel
theorem dX4_low_359 : decode cX4_low 359 = .ok (.lload 5, 2) := by decide +kernel
theorem dX4_low_361 : decode cX4_low 361 = .ok (.lload 7, 2) := by decide +kernel
theorem dX4_low_363 : decode cX4_low 363 = .ok (.lxor, 1) := by decide +kernel
theorem dX4_low_364 : decode cX4_low 364 = .ok (.lload 5, 2) := by decide +kernel
theorem dX4_low_366 : decode cX4_low 366 = .ok (.lload 9, 2) := by decide +kernel
theorem dX4_low_368 : decode cX4_low 368 = .ok (.lxor, 1) := by decide +kernel
theorem dX4_low_369 : decode cX4_low 369 = .ok (.land, 1) := by decide +kernel
theorem dX4_low_370 : decode cX4_low 370 = .ok (.lconst 0, 1) := by decide +kernel
theorem dX4_low_371 : decode cX4_low 371 = .ok (.lcmp, 1) := by decide +kernel
theorem dX4_low_372 : decode cX4_low 372 = .ok (.ifCond .ge 7, 3) := by decide +kernel
theorem dX4_low_375 : decode cX4_low 375 = .ok (.iconst 1, 1) := by decide +kernel
theorem dX4_low_376 : decode cX4_low 376 = .ok (.goto 4, 3) := by decide +kernel
theorem dX4_low_379 : decode cX4_low 379 = .ok (.iconst 0, 1) := by decide +kernel
theorem dX4_low_380 : decode cX4_low 380 = .ok (.invokevirtual 245, 3) := by decide +kernel
theorem dX4_low_383 : decode cX4_low 383 = .ok (.goto 332, 3) := by decide +kernel
theorem dX4_low_386 : decode cX4_low 386 = .ok (.lload 5, 2) := by decide +kernel
theorem dX4_low_388 : decode cX4_low 388 = .ok (.lload 7, 2) := by decide +kernel
theorem dX4_low_390 : decode cX4_low 390 = .ok (.lsub, 1) := by decide +kernel
theorem dX4_low_391 : decode cX4_low 391 = .ok (.lstore 9, 2) := by decide +kernel
theorem dX4_low_393 : decode cX4_low 393 = .ok (.goto 322, 3) := by decide +kernel
theorem dX4_low_396 : decode cX4_low 396 = .ok (.lload 5, 2) := by decide +kernel
theorem dX4_low_398 : decode cX4_low 398 = .ok (.ldc2_w 255, 3) := by decide +kernel
theorem dX4_low_401 : decode cX4_low 401 = .ok (.lmul, 1) := by decide +kernel
theorem dX4_low_402 : decode cX4_low 402 = .ok (.lload 7, 2) := by decide +kernel
theorem dX4_low_404 : decode cX4_low 404 = .ok (.ladd, 1) := by decide +kernel
theorem dX4_low_405 : decode cX4_low 405 = .ok (.lstore 9, 2) := by decide +kernel
theorem dX4_low_407 : decode cX4_low 407 = .ok (.goto 308, 3) := by decide +kernel
theorem dX4_low_410 : decode cX4_low 410 = .ok (.lload 5, 2) := by decide +kernel
theorem dX4_low_412 : decode cX4_low 412 = .ok (.ldc2_w 223, 3) := by decide +kernel
theorem dX4_low_415 : decode cX4_low 415 = .ok (.lmul, 1) := by decide +kernel
theorem dX4_low_416 : decode cX4_low 416 = .ok (.lload 7, 2) := by decide +kernel
theorem dX4_low_418 : decode cX4_low 418 = .ok (.ladd, 1) := by decide +kernel
theorem dX4_low_419 : decode cX4_low 419 = .ok (.lstore 9, 2) := by decide +kernel
theorem dX4_low_421 : decode cX4_low 421 = .ok (.goto 294, 3) := by decide +kernel
theorem dX4_low_424 : decode cX4_low 424 = .ok (.lload 5, 2) := by decide +kernel
theorem dX4_low_426 : decode cX4_low 426 = .ok (.ldc2_w 257, 3) := by decide +kernel
theorem dX4_low_429 : decode cX4_low 429 = .ok (.lmul, 1) := by decide +kernel
theorem dX4_low_430 : decode cX4_low 430 = .ok (.lload 7, 2) := by decide +kernel
theorem dX4_low_432 : decode cX4_low 432 = .ok (.ladd, 1) := by decide +kernel
theorem dX4_low_433 : decode cX4_low 433 = .ok (.lstore 9, 2) := by decide +kernel
theorem dX4_low_435 : decode cX4_low 435 = .ok (.goto 280, 3) := by decide +kernel
theorem dX4_low_438 : decode cX4_low 438 = .ok (.lload 5, 2) := by decide +kernel
theorem dX4_low_440 : decode cX4_low 440 = .ok (.ldc2_w 259, 3) := by decide +kernel
theorem dX4_low_443 : decode cX4_low 443 = .ok (.lmul, 1) := by decide +kernel
theorem dX4_low_444 : decode cX4_low 444 = .ok (.lload 7, 2) := by decide +kernel
theorem dX4_low_446 : decode cX4_low 446 = .ok (.ladd, 1) := by decide +kernel
theorem dX4_low_447 : decode cX4_low 447 = .ok (.lstore 9, 2) := by decide +kernel
theorem dX4_low_449 : decode cX4_low 449 = .ok (.goto 266, 3) := by decide +kernel
theorem dX4_low_452 : decode cX4_low 452 = .ok (.lload 5, 2) := by decide +kernel
theorem dX4_low_454 : decode cX4_low 454 = .ok (.lload 7, 2) := by decide +kernel
theorem dX4_low_456 : decode cX4_low 456 = .ok (.lcmp, 1) := by decide +kernel
theorem dX4_low_457 : decode cX4_low 457 = .ok (.ifCond .ge 9, 3) := by decide +kernel
theorem dX4_low_460 : decode cX4_low 460 = .ok (.ldc2_w 261, 3) := by decide +kernel
theorem dX4_low_463 : decode cX4_low 463 = .ok (.goto 16, 3) := by decide +kernel
theorem dX4_low_466 : decode cX4_low 466 = .ok (.lload 5, 2) := by decide +kernel
theorem dX4_low_468 : decode cX4_low 468 = .ok (.lload 7, 2) := by decide +kernel
theorem dX4_low_470 : decode cX4_low 470 = .ok (.lcmp, 1) := by decide +kernel
theorem dX4_low_471 : decode cX4_low 471 = .ok (.ifCond .ne 7, 3) := by decide +kernel
theorem dX4_low_474 : decode cX4_low 474 = .ok (.lconst 0, 1) := by decide +kernel
theorem dX4_low_475 : decode cX4_low 475 = .ok (.goto 4, 3) := by decide +kernel
theorem dX4_low_478 : decode cX4_low 478 = .ok (.lconst 1, 1) := by decide +kernel
theorem dX4_low_479 : decode cX4_low 479 = .ok (.lstore 9, 2) := by decide +kernel
theorem dX4_low_481 : decode cX4_low 481 = .ok (.goto 234, 3) := by decide +kernel
theorem dX4_low_484 : decode cX4_low 484 = .ok (.lload 7, 2) := by decide +kernel
theorem dX4_low_486 : decode cX4_low 486 = .ok (.lload 5, 2) := by decide +kernel
theorem dX4_low_488 : decode cX4_low 488 = .ok (.invokestatic 263, 3) := by decide +kernel
theorem dX4_low_491 : decode cX4_low 491 = .ok (.ifCond .eq 9, 3) := by decide +kernel
theorem dX4_low_494 : decode cX4_low 494 = .ok (.ldc2_w 261, 3) := by decide +kernel
theorem dX4_low_497 : decode cX4_low 497 = .ok (.goto 16, 3) := by decide +kernel
theorem dX4_low_500 : decode cX4_low 500 = .ok (.lload 5, 2) := by decide +kernel
theorem dX4_low_502 : decode cX4_low 502 = .ok (.lload 7, 2) := by decide +kernel
theorem dX4_low_504 : decode cX4_low 504 = .ok (.lcmp, 1) := by decide +kernel
theorem dX4_low_505 : decode cX4_low 505 = .ok (.ifCond .ne 7, 3) := by decide +kernel
theorem dX4_low_508 : decode cX4_low 508 = .ok (.lconst 0, 1) := by decide +kernel
theorem dX4_low_509 : decode cX4_low 509 = .ok (.goto 4, 3) := by decide +kernel
theorem dX4_low_512 : decode cX4_low 512 = .ok (.lconst 1, 1) := by decide +kernel
theorem dX4_low_513 : decode cX4_low 513 = .ok (.lstore 9, 2) := by decide +kernel
theorem dX4_low_515 : decode cX4_low 515 = .ok (.goto 200, 3) := by decide +kernel
theorem dX4_low_518 : decode cX4_low 518 = .ok (.iload_n 3, 1) := by decide +kernel
theorem dX4_low_519 : decode cX4_low 519 = .ok (.i2l, 1) := by decide +kernel
theorem dX4_low_520 : decode cX4_low 520 = .ok (.lload 7, 2) := by decide +kernel
theorem dX4_low_522 : decode cX4_low 522 = .ok (.lsub, 1) := by decide +kernel
theorem dX4_low_523 : decode cX4_low 523 = .ok (.lstore 9, 2) := by decide +kernel
theorem dX4_low_525 : decode cX4_low 525 = .ok (.aload_n 0, 1) := by decide +kernel
theorem dX4_low_526 : decode cX4_low 526 = .ok (.iload_n 3, 1) := by decide +kernel
theorem dX4_low_527 : decode cX4_low 527 = .ok (.i2l, 1) := by decide +kernel
theorem dX4_low_528 : decode cX4_low 528 = .ok (.lload 7, 2) := by decide +kernel
theorem dX4_low_530 : decode cX4_low 530 = .ok (.lxor, 1) := by decide +kernel
theorem dX4_low_531 : decode cX4_low 531 = .ok (.iload_n 3, 1) := by decide +kernel
theorem dX4_low_532 : decode cX4_low 532 = .ok (.i2l, 1) := by decide +kernel
theorem dX4_low_533 : decode cX4_low 533 = .ok (.lload 9, 2) := by decide +kernel
theorem dX4_low_535 : decode cX4_low 535 = .ok (.lxor, 1) := by decide +kernel
theorem dX4_low_536 : decode cX4_low 536 = .ok (.land, 1) := by decide +kernel
theorem dX4_low_537 : decode cX4_low 537 = .ok (.lconst 0, 1) := by decide +kernel
theorem dX4_low_538 : decode cX4_low 538 = .ok (.lcmp, 1) := by decide +kernel
theorem dX4_low_539 : decode cX4_low 539 = .ok (.ifCond .ge 7, 3) := by decide +kernel
theorem dX4_low_542 : decode cX4_low 542 = .ok (.iconst 1, 1) := by decide +kernel
theorem dX4_low_543 : decode cX4_low 543 = .ok (.goto 4, 3) := by decide +kernel
theorem dX4_low_546 : decode cX4_low 546 = .ok (.iconst 0, 1) := by decide +kernel
theorem dX4_low_547 : decode cX4_low 547 = .ok (.invokevirtual 245, 3) := by decide +kernel
theorem dX4_low_550 : decode cX4_low 550 = .ok (.goto 165, 3) := by decide +kernel
theorem dX4_low_553 : decode cX4_low 553 = .ok (.iload_n 3, 1) := by decide +kernel
theorem dX4_low_554 : decode cX4_low 554 = .ok (.i2l, 1) := by decide +kernel
theorem dX4_low_555 : decode cX4_low 555 = .ok (.lload 7, 2) := by decide +kernel
theorem dX4_low_557 : decode cX4_low 557 = .ok (.lsub, 1) := by decide +kernel
theorem dX4_low_558 : decode cX4_low 558 = .ok (.lstore 9, 2) := by decide +kernel
theorem dX4_low_560 : decode cX4_low 560 = .ok (.goto 155, 3) := by decide +kernel
theorem dX4_low_563 : decode cX4_low 563 = .ok (.lload 7, 2) := by decide +kernel
theorem dX4_low_565 : decode cX4_low 565 = .ok (.ldc2_w 267, 3) := by decide +kernel
theorem dX4_low_568 : decode cX4_low 568 = .ok (.invokestatic 263, 3) := by decide +kernel
theorem dX4_low_571 : decode cX4_low 571 = .ok (.ifCond .eq 7, 3) := by decide +kernel
theorem dX4_low_574 : decode cX4_low 574 = .ok (.lconst 0, 1) := by decide +kernel
theorem dX4_low_575 : decode cX4_low 575 = .ok (.goto 9, 3) := by decide +kernel
theorem dX4_low_578 : decode cX4_low 578 = .ok (.lload 5, 2) := by decide +kernel
theorem dX4_low_580 : decode cX4_low 580 = .ok (.lload 7, 2) := by decide +kernel
theorem dX4_low_582 : decode cX4_low 582 = .ok (.l2i, 1) := by decide +kernel
theorem dX4_low_583 : decode cX4_low 583 = .ok (.lshl, 1) := by decide +kernel
theorem dX4_low_584 : decode cX4_low 584 = .ok (.lstore 9, 2) := by decide +kernel
theorem dX4_low_586 : decode cX4_low 586 = .ok (.aload_n 0, 1) := by decide +kernel
theorem dX4_low_587 : decode cX4_low 587 = .ok (.lload 7, 2) := by decide +kernel
theorem dX4_low_589 : decode cX4_low 589 = .ok (.ldc2_w 267, 3) := by decide +kernel
theorem dX4_low_592 : decode cX4_low 592 = .ok (.invokestatic 263, 3) := by decide +kernel
theorem dX4_low_595 : decode cX4_low 595 = .ok (.ifCond .eq 18, 3) := by decide +kernel
theorem dX4_low_598 : decode cX4_low 598 = .ok (.lload 5, 2) := by decide +kernel
theorem dX4_low_600 : decode cX4_low 600 = .ok (.lconst 0, 1) := by decide +kernel
theorem dX4_low_601 : decode cX4_low 601 = .ok (.lcmp, 1) := by decide +kernel
theorem dX4_low_602 : decode cX4_low 602 = .ok (.ifCond .eq 7, 3) := by decide +kernel
theorem dX4_low_605 : decode cX4_low 605 = .ok (.iconst 1, 1) := by decide +kernel
theorem dX4_low_606 : decode cX4_low 606 = .ok (.goto 24, 3) := by decide +kernel
theorem dX4_low_609 : decode cX4_low 609 = .ok (.iconst 0, 1) := by decide +kernel
theorem dX4_low_610 : decode cX4_low 610 = .ok (.goto 20, 3) := by decide +kernel
theorem dX4_low_613 : decode cX4_low 613 = .ok (.lload 9, 2) := by decide +kernel
theorem dX4_low_615 : decode cX4_low 615 = .ok (.lload 7, 2) := by decide +kernel
theorem dX4_low_617 : decode cX4_low 617 = .ok (.l2i, 1) := by decide +kernel
theorem dX4_low_618 : decode cX4_low 618 = .ok (.lshr, 1) := by decide +kernel
theorem dX4_low_619 : decode cX4_low 619 = .ok (.lload 5, 2) := by decide +kernel
theorem dX4_low_621 : decode cX4_low 621 = .ok (.lcmp, 1) := by decide +kernel
theorem dX4_low_622 : decode cX4_low 622 = .ok (.ifCond .eq 7, 3) := by decide +kernel
theorem dX4_low_625 : decode cX4_low 625 = .ok (.iconst 1, 1) := by decide +kernel
theorem dX4_low_626 : decode cX4_low 626 = .ok (.goto 4, 3) := by decide +kernel
theorem dX4_low_629 : decode cX4_low 629 = .ok (.iconst 0, 1) := by decide +kernel
theorem dX4_low_630 : decode cX4_low 630 = .ok (.invokevirtual 245, 3) := by decide +kernel
theorem dX4_low_633 : decode cX4_low 633 = .ok (.goto 82, 3) := by decide +kernel
theorem dX4_low_636 : decode cX4_low 636 = .ok (.lload 7, 2) := by decide +kernel
theorem dX4_low_638 : decode cX4_low 638 = .ok (.ldc2_w 267, 3) := by decide +kernel
theorem dX4_low_641 : decode cX4_low 641 = .ok (.invokestatic 263, 3) := by decide +kernel
theorem dX4_low_644 : decode cX4_low 644 = .ok (.ifCond .eq 7, 3) := by decide +kernel
theorem dX4_low_647 : decode cX4_low 647 = .ok (.lconst 0, 1) := by decide +kernel
theorem dX4_low_648 : decode cX4_low 648 = .ok (.goto 9, 3) := by decide +kernel
theorem dX4_low_651 : decode cX4_low 651 = .ok (.lload 5, 2) := by decide +kernel
theorem dX4_low_653 : decode cX4_low 653 = .ok (.lload 7, 2) := by decide +kernel
theorem dX4_low_655 : decode cX4_low 655 = .ok (.l2i, 1) := by decide +kernel
theorem dX4_low_656 : decode cX4_low 656 = .ok (.lshl, 1) := by decide +kernel
theorem dX4_low_657 : decode cX4_low 657 = .ok (.lstore 9, 2) := by decide +kernel
theorem dX4_low_659 : decode cX4_low 659 = .ok (.goto 56, 3) := by decide +kernel
theorem dX4_low_662 : decode cX4_low 662 = .ok (.lload 7, 2) := by decide +kernel
theorem dX4_low_664 : decode cX4_low 664 = .ok (.ldc2_w 267, 3) := by decide +kernel
theorem dX4_low_667 : decode cX4_low 667 = .ok (.invokestatic 263, 3) := by decide +kernel
theorem dX4_low_670 : decode cX4_low 670 = .ok (.ifCond .eq 11, 3) := by decide +kernel
theorem dX4_low_673 : decode cX4_low 673 = .ok (.lload 5, 2) := by decide +kernel
theorem dX4_low_675 : decode cX4_low 675 = .ok (.bipush 63, 2) := by decide +kernel
theorem dX4_low_677 : decode cX4_low 677 = .ok (.lshr, 1) := by decide +kernel
theorem dX4_low_678 : decode cX4_low 678 = .ok (.goto 9, 3) := by decide +kernel
theorem dX4_low_681 : decode cX4_low 681 = .ok (.lload 5, 2) := by decide +kernel
theorem dX4_low_683 : decode cX4_low 683 = .ok (.lload 7, 2) := by decide +kernel
theorem dX4_low_685 : decode cX4_low 685 = .ok (.l2i, 1) := by decide +kernel
theorem dX4_low_686 : decode cX4_low 686 = .ok (.lshr, 1) := by decide +kernel
theorem dX4_low_687 : decode cX4_low 687 = .ok (.lstore 9, 2) := by decide +kernel
theorem dX4_low_689 : decode cX4_low 689 = .ok (.goto 26, 3) := by decide +kernel
theorem dX4_low_692 : decode cX4_low 692 = .ok (.lload 7, 2) := by decide +kernel
theorem dX4_low_694 : decode cX4_low 694 = .ok (.ldc2_w 267, 3) := by decide +kernel
theorem dX4_low_697 : decode cX4_low 697 = .ok (.invokestatic 263, 3) := by decide +kernel
theorem dX4_low_700 : decode cX4_low 700 = .ok (.ifCond .eq 7, 3) := by decide +kernel
theorem dX4_low_703 : decode cX4_low 703 = .ok (.lconst 0, 1) := by decide +kernel
theorem dX4_low_704 : decode cX4_low 704 = .ok (.goto 9, 3) := by decide +kernel
theorem dX4_low_707 : decode cX4_low 707 = .ok (.lload 5, 2) := by decide +kernel
theorem dX4_low_709 : decode cX4_low 709 = .ok (.lload 7, 2) := by decide +kernel
theorem dX4_low_711 : decode cX4_low 711 = .ok (.l2i, 1) := by decide +kernel
theorem dX4_low_712 : decode cX4_low 712 = .ok (.lushr, 1) := by decide +kernel
theorem dX4_low_713 : decode cX4_low 713 = .ok (.lstore 9, 2) := by decide +kernel
theorem dX4_low_715 : decode cX4_low 715 = .ok (.aload_n 0, 1) := by decide +kernel
theorem dX4_low_716 : decode cX4_low 716 = .ok (.iload_n 2, 1) := by decide +kernel
theorem dX4_low_717 : decode cX4_low 717 = .ok (.lload 9, 2) := by decide +kernel
theorem dX4_low_719 : decode cX4_low 719 = .ok (.invokevirtual 269, 3) := by decide +kernel
theorem dX4_low_722 : decode cX4_low 722 = .ok (.ireturn, 1) := by decide +kernel
theorem dX4_upper_0 : decode cX4_upper 0 = .ok (.lload_n 0, 1) := by decide +kernel
theorem dX4_upper_1 : decode cX4_upper 1 = .ok (.ldc2_w 273, 3) := by decide +kernel
theorem dX4_upper_4 : decode cX4_upper 4 = .ok (.land, 1) := by decide +kernel
theorem dX4_upper_5 : decode cX4_upper 5 = .ok (.lstore 4, 2) := by decide +kernel
theorem dX4_upper_7 : decode cX4_upper 7 = .ok (.lload_n 2, 1) := by decide +kernel
theorem dX4_upper_8 : decode cX4_upper 8 = .ok (.ldc2_w 273, 3) := by decide +kernel
theorem dX4_upper_11 : decode cX4_upper 11 = .ok (.land, 1) := by decide +kernel
theorem dX4_upper_12 : decode cX4_upper 12 = .ok (.lstore 6, 2) := by decide +kernel
theorem dX4_upper_14 : decode cX4_upper 14 = .ok (.lload_n 0, 1) := by decide +kernel
theorem dX4_upper_15 : decode cX4_upper 15 = .ok (.bipush 32, 2) := by decide +kernel
theorem dX4_upper_17 : decode cX4_upper 17 = .ok (.lshr, 1) := by decide +kernel
theorem dX4_upper_18 : decode cX4_upper 18 = .ok (.lstore 8, 2) := by decide +kernel
theorem dX4_upper_20 : decode cX4_upper 20 = .ok (.lload_n 2, 1) := by decide +kernel
theorem dX4_upper_21 : decode cX4_upper 21 = .ok (.bipush 32, 2) := by decide +kernel
theorem dX4_upper_23 : decode cX4_upper 23 = .ok (.lshr, 1) := by decide +kernel
theorem dX4_upper_24 : decode cX4_upper 24 = .ok (.lstore 10, 2) := by decide +kernel
theorem dX4_upper_26 : decode cX4_upper 26 = .ok (.lload 8, 2) := by decide +kernel
theorem dX4_upper_28 : decode cX4_upper 28 = .ok (.lload 6, 2) := by decide +kernel
theorem dX4_upper_30 : decode cX4_upper 30 = .ok (.lmul, 1) := by decide +kernel
theorem dX4_upper_31 : decode cX4_upper 31 = .ok (.lload 4, 2) := by decide +kernel
theorem dX4_upper_33 : decode cX4_upper 33 = .ok (.lload 6, 2) := by decide +kernel
theorem dX4_upper_35 : decode cX4_upper 35 = .ok (.lmul, 1) := by decide +kernel
theorem dX4_upper_36 : decode cX4_upper 36 = .ok (.bipush 32, 2) := by decide +kernel
theorem dX4_upper_38 : decode cX4_upper 38 = .ok (.lushr, 1) := by decide +kernel
theorem dX4_upper_39 : decode cX4_upper 39 = .ok (.ladd, 1) := by decide +kernel
theorem dX4_upper_40 : decode cX4_upper 40 = .ok (.lstore 12, 2) := by decide +kernel
theorem dX4_upper_42 : decode cX4_upper 42 = .ok (.lload 12, 2) := by decide +kernel
theorem dX4_upper_44 : decode cX4_upper 44 = .ok (.ldc2_w 273, 3) := by decide +kernel
theorem dX4_upper_47 : decode cX4_upper 47 = .ok (.land, 1) := by decide +kernel
theorem dX4_upper_48 : decode cX4_upper 48 = .ok (.lload 4, 2) := by decide +kernel
theorem dX4_upper_50 : decode cX4_upper 50 = .ok (.lload 10, 2) := by decide +kernel
theorem dX4_upper_52 : decode cX4_upper 52 = .ok (.lmul, 1) := by decide +kernel
theorem dX4_upper_53 : decode cX4_upper 53 = .ok (.ladd, 1) := by decide +kernel
theorem dX4_upper_54 : decode cX4_upper 54 = .ok (.lstore 14, 2) := by decide +kernel
theorem dX4_upper_56 : decode cX4_upper 56 = .ok (.lload 8, 2) := by decide +kernel
theorem dX4_upper_58 : decode cX4_upper 58 = .ok (.lload 10, 2) := by decide +kernel
theorem dX4_upper_60 : decode cX4_upper 60 = .ok (.lmul, 1) := by decide +kernel
theorem dX4_upper_61 : decode cX4_upper 61 = .ok (.lload 12, 2) := by decide +kernel
theorem dX4_upper_63 : decode cX4_upper 63 = .ok (.bipush 32, 2) := by decide +kernel
theorem dX4_upper_65 : decode cX4_upper 65 = .ok (.lshr, 1) := by decide +kernel
theorem dX4_upper_66 : decode cX4_upper 66 = .ok (.ladd, 1) := by decide +kernel
theorem dX4_upper_67 : decode cX4_upper 67 = .ok (.lload 14, 2) := by decide +kernel
theorem dX4_upper_69 : decode cX4_upper 69 = .ok (.bipush 32, 2) := by decide +kernel
theorem dX4_upper_71 : decode cX4_upper 71 = .ok (.lshr, 1) := by decide +kernel
theorem dX4_upper_72 : decode cX4_upper 72 = .ok (.ladd, 1) := by decide +kernel
theorem dX4_upper_73 : decode cX4_upper 73 = .ok (.lreturn, 1) := by decide +kernel
set_option maxRecDepth 20000 in
theorem ggX4_quotient_X4_over : GoodIn wsX4_quotient wsX4_over := goodIn_r _ [9, 1, 10, 11, 12, 13, 14, 15, 16, 17, 18, 19, 20, 21, 22, 23, 24, 25, 26, 27] rfl (by decide +kernel)
set_option maxRecDepth 20000 in
theorem gX4_quotient_X4_over : GoodIn wsX4_quotient (wsV RX4 245 RX4 yX4_over wsX4_over) := goodIn_app (goodIn_of _ (by decide +kernel)) ggX4_quotient_X4_over
theorem dX4_quotient_0 : decode cX4_quotient 0 = .ok (.lload_n 3, 1) := by decide +kernel
theorem dX4_quotient_1 : decode cX4_quotient 1 = .ok (.lconst 0, 1) := by decide +kernel
theorem dX4_quotient_2 : decode cX4_quotient 2 = .ok (.lcmp, 1) := by decide +kernel
theorem dX4_quotient_3 : decode cX4_quotient 3 = .ok (.ifCond .ne 26, 3) := by decide +kernel
theorem dX4_quotient_6 : decode cX4_quotient 6 = .ok (.aload_n 0, 1) := by decide +kernel
theorem dX4_quotient_7 : decode cX4_quotient 7 = .ok (.getfield 13, 3) := by decide +kernel
theorem dX4_quotient_10 : decode cX4_quotient 10 = .ok (.bipush 6, 2) := by decide +kernel
theorem dX4_quotient_12 : decode cX4_quotient 12 = .ok (.lload_n 1, 1) := by decide +kernel
theorem dX4_quotient_13 : decode cX4_quotient 13 = .ok (.lastore, 1) := by decide +kernel
theorem dX4_quotient_14 : decode cX4_quotient 14 = .ok (.aload_n 0, 1) := by decide +kernel
theorem dX4_quotient_15 : decode cX4_quotient 15 = .ok (.getfield 13, 3) := by decide +kernel
theorem dX4_quotient_18 : decode cX4_quotient 18 = .ok (.bipush 7, 2) := by decide +kernel
theorem dX4_quotient_20 : decode cX4_quotient 20 = .ok (.dup2, 1) := by decide +kernel
theorem dX4_quotient_21 : decode cX4_quotient 21 = .ok (.laload, 1) := by decide +kernel
theorem dX4_quotient_22 : decode cX4_quotient 22 = .ok (.ldc2_w 275, 3) := by decide +kernel
theorem dX4_quotient_25 : decode cX4_quotient 25 = .ok (.lor, 1) := by decide +kernel
theorem dX4_quotient_26 : decode cX4_quotient 26 = .ok (.lastore, 1) := by decide +kernel
theorem dX4_quotient_27 : decode cX4_quotient 27 = .ok (.lconst 0, 1) := by decide +kernel
theorem dX4_quotient_28 : decode cX4_quotient 28 = .ok (.lreturn, 1) := by decide +kernel
theorem dX4_quotient_29 : decode cX4_quotient 29 = .ok (.aload_n 0, 1) := by decide +kernel
theorem dX4_quotient_30 : decode cX4_quotient 30 = .ok (.lload_n 1, 1) := by decide +kernel
theorem dX4_quotient_31 : decode cX4_quotient 31 = .ok (.ldc2_w 160, 3) := by decide +kernel
theorem dX4_quotient_34 : decode cX4_quotient 34 = .ok (.lcmp, 1) := by decide +kernel
theorem dX4_quotient_35 : decode cX4_quotient 35 = .ok (.ifCond .ne 15, 3) := by decide +kernel
theorem dX4_quotient_38 : decode cX4_quotient 38 = .ok (.lload_n 3, 1) := by decide +kernel
theorem dX4_quotient_39 : decode cX4_quotient 39 = .ok (.ldc2_w 261, 3) := by decide +kernel
theorem dX4_quotient_42 : decode cX4_quotient 42 = .ok (.lcmp, 1) := by decide +kernel
theorem dX4_quotient_43 : decode cX4_quotient 43 = .ok (.ifCond .ne 7, 3) := by decide +kernel
theorem dX4_quotient_46 : decode cX4_quotient 46 = .ok (.iconst 1, 1) := by decide +kernel
theorem dX4_quotient_47 : decode cX4_quotient 47 = .ok (.goto 4, 3) := by decide +kernel
theorem dX4_quotient_50 : decode cX4_quotient 50 = .ok (.iconst 0, 1) := by decide +kernel
theorem dX4_quotient_51 : decode cX4_quotient 51 = .ok (.invokevirtual 245, 3) := by decide +kernel
theorem dX4_quotient_54 : decode cX4_quotient 54 = .ok (.lload_n 1, 1) := by decide +kernel
theorem dX4_quotient_55 : decode cX4_quotient 55 = .ok (.lload_n 3, 1) := by decide +kernel
theorem dX4_quotient_56 : decode cX4_quotient 56 = .ok (.ldiv, 1) := by decide +kernel
theorem dX4_quotient_57 : decode cX4_quotient 57 = .ok (.lstore 5, 2) := by decide +kernel
theorem dX4_quotient_59 : decode cX4_quotient 59 = .ok (.lload_n 1, 1) := by decide +kernel
theorem dX4_quotient_60 : decode cX4_quotient 60 = .ok (.lload_n 3, 1) := by decide +kernel
theorem dX4_quotient_61 : decode cX4_quotient 61 = .ok (.lrem, 1) := by decide +kernel
theorem dX4_quotient_62 : decode cX4_quotient 62 = .ok (.lconst 0, 1) := by decide +kernel
theorem dX4_quotient_63 : decode cX4_quotient 63 = .ok (.lcmp, 1) := by decide +kernel
theorem dX4_quotient_64 : decode cX4_quotient 64 = .ok (.ifCond .eq 36, 3) := by decide +kernel
theorem dX4_quotient_67 : decode cX4_quotient 67 = .ok (.lload_n 1, 1) := by decide +kernel
theorem dX4_quotient_68 : decode cX4_quotient 68 = .ok (.lload_n 3, 1) := by decide +kernel
theorem dX4_quotient_69 : decode cX4_quotient 69 = .ok (.lrem, 1) := by decide +kernel
theorem dX4_quotient_70 : decode cX4_quotient 70 = .ok (.lconst 0, 1) := by decide +kernel
theorem dX4_quotient_71 : decode cX4_quotient 71 = .ok (.lcmp, 1) := by decide +kernel
theorem dX4_quotient_72 : decode cX4_quotient 72 = .ok (.ifCond .ge 7, 3) := by decide +kernel
theorem dX4_quotient_75 : decode cX4_quotient 75 = .ok (.iconst 1, 1) := by decide +kernel
theorem dX4_quotient_76 : decode cX4_quotient 76 = .ok (.goto 4, 3) := by decide +kernel
theorem dX4_quotient_79 : decode cX4_quotient 79 = .ok (.iconst 0, 1) := by decide +kernel
theorem dX4_quotient_80 : decode cX4_quotient 80 = .ok (.lload_n 3, 1) := by decide +kernel
theorem dX4_quotient_81 : decode cX4_quotient 81 = .ok (.lconst 0, 1) := by decide +kernel
theorem dX4_quotient_82 : decode cX4_quotient 82 = .ok (.lcmp, 1) := by decide +kernel
theorem dX4_quotient_83 : decode cX4_quotient 83 = .ok (.ifCond .ge 7, 3) := by decide +kernel
theorem dX4_quotient_86 : decode cX4_quotient 86 = .ok (.iconst 1, 1) := by decide +kernel
theorem dX4_quotient_87 : decode cX4_quotient 87 = .ok (.goto 4, 3) := by decide +kernel
theorem dX4_quotient_90 : decode cX4_quotient 90 = .ok (.iconst 0, 1) := by decide +kernel
theorem dX4_quotient_91 : decode cX4_quotient 91 = .ok (.if_icmp .eq 9, 3) := by decide +kernel
theorem dX4_quotient_94 : decode cX4_quotient 94 = .ok (.lload 5, 2) := by decide +kernel
theorem dX4_quotient_96 : decode cX4_quotient 96 = .ok (.lconst 1, 1) := by decide +kernel
theorem dX4_quotient_97 : decode cX4_quotient 97 = .ok (.lsub, 1) := by decide +kernel
theorem dX4_quotient_98 : decode cX4_quotient 98 = .ok (.lstore 5, 2) := by decide +kernel
theorem dX4_quotient_100 : decode cX4_quotient 100 = .ok (.aload_n 0, 1) := by decide +kernel
theorem dX4_quotient_101 : decode cX4_quotient 101 = .ok (.getfield 13, 3) := by decide +kernel
theorem dX4_quotient_104 : decode cX4_quotient 104 = .ok (.bipush 6, 2) := by decide +kernel
theorem dX4_quotient_106 : decode cX4_quotient 106 = .ok (.lload_n 1, 1) := by decide +kernel
theorem dX4_quotient_107 : decode cX4_quotient 107 = .ok (.lload_n 3, 1) := by decide +kernel
theorem dX4_quotient_108 : decode cX4_quotient 108 = .ok (.lload 5, 2) := by decide +kernel
theorem dX4_quotient_110 : decode cX4_quotient 110 = .ok (.lmul, 1) := by decide +kernel
theorem dX4_quotient_111 : decode cX4_quotient 111 = .ok (.lsub, 1) := by decide +kernel
theorem dX4_quotient_112 : decode cX4_quotient 112 = .ok (.lastore, 1) := by decide +kernel
theorem dX4_quotient_113 : decode cX4_quotient 113 = .ok (.lload 5, 2) := by decide +kernel
theorem dX4_quotient_115 : decode cX4_quotient 115 = .ok (.lreturn, 1) := by decide +kernel
set_option maxRecDepth 20000 in
theorem ggX4_quotientOf_X4_above : GoodIn wsX4_quotientOf wsX4_above := goodIn_r _ [5, 6] rfl (by decide +kernel)
set_option maxRecDepth 20000 in
theorem gX4_quotientOf_X4_above : GoodIn wsX4_quotientOf (va_wsS RX4 263 yX4_above wsX4_above) := goodIn_app (goodIn_of _ (by decide +kernel)) ggX4_quotientOf_X4_above
theorem dX4_quotientOf_0 : decode cX4_quotientOf 0 = .ok (.lload_n 3, 1) := by decide +kernel
theorem dX4_quotientOf_1 : decode cX4_quotientOf 1 = .ok (.aload_n 0, 1) := by decide +kernel
theorem dX4_quotientOf_2 : decode cX4_quotientOf 2 = .ok (.getfield 13, 3) := by decide +kernel
theorem dX4_quotientOf_5 : decode cX4_quotientOf 5 = .ok (.iconst 1, 1) := by decide +kernel
theorem dX4_quotientOf_6 : decode cX4_quotientOf 6 = .ok (.laload, 1) := by decide +kernel
theorem dX4_quotientOf_7 : decode cX4_quotientOf 7 = .ok (.invokestatic 263, 3) := by decide +kernel
theorem dX4_quotientOf_10 : decode cX4_quotientOf 10 = .ok (.ifCond .ne 18, 3) := by decide +kernel
theorem dX4_quotientOf_13 : decode cX4_quotientOf 13 = .ok (.aload_n 0, 1) := by decide +kernel
theorem dX4_quotientOf_14 : decode cX4_quotientOf 14 = .ok (.getfield 13, 3) := by decide +kernel
theorem dX4_quotientOf_17 : decode cX4_quotientOf 17 = .ok (.bipush 6, 2) := by decide +kernel
theorem dX4_quotientOf_19 : decode cX4_quotientOf 19 = .ok (.lload_n 1, 1) := by decide +kernel
theorem dX4_quotientOf_20 : decode cX4_quotientOf 20 = .ok (.lastore, 1) := by decide +kernel
theorem dX4_quotientOf_21 : decode cX4_quotientOf 21 = .ok (.aload_n 0, 1) := by decide +kernel
theorem dX4_quotientOf_22 : decode cX4_quotientOf 22 = .ok (.getfield 13, 3) := by decide +kernel
theorem dX4_quotientOf_25 : decode cX4_quotientOf 25 = .ok (.iconst 1, 1) := by decide +kernel
theorem dX4_quotientOf_26 : decode cX4_quotientOf 26 = .ok (.laload, 1) := by decide +kernel
theorem dX4_quotientOf_27 : decode cX4_quotientOf 27 = .ok (.lreturn, 1) := by decide +kernel
theorem dX4_quotientOf_28 : decode cX4_quotientOf 28 = .ok (.aload_n 0, 1) := by decide +kernel
theorem dX4_quotientOf_29 : decode cX4_quotientOf 29 = .ok (.getfield 13, 3) := by decide +kernel
theorem dX4_quotientOf_32 : decode cX4_quotientOf 32 = .ok (.iconst 1, 1) := by decide +kernel
theorem dX4_quotientOf_33 : decode cX4_quotientOf 33 = .ok (.laload, 1) := by decide +kernel
theorem dX4_quotientOf_34 : decode cX4_quotientOf 34 = .ok (.lstore 5, 2) := by decide +kernel
theorem dX4_quotientOf_36 : decode cX4_quotientOf 36 = .ok (.lconst 0, 1) := by decide +kernel
theorem dX4_quotientOf_37 : decode cX4_quotientOf 37 = .ok (.lstore 7, 2) := by decide +kernel
theorem dX4_quotientOf_39 : decode cX4_quotientOf 39 = .ok (.bipush 63, 2) := by decide +kernel
theorem dX4_quotientOf_41 : decode cX4_quotientOf 41 = .ok (.istore 9, 2) := by decide +kernel
theorem dX4_quotientOf_43 : decode cX4_quotientOf 43 = .ok (.iload 9, 2) := by decide +kernel
theorem dX4_quotientOf_45 : decode cX4_quotientOf 45 = .ok (.ifCond .lt 71, 3) := by decide +kernel
theorem dX4_quotientOf_48 : decode cX4_quotientOf 48 = .ok (.lload 5, 2) := by decide +kernel
theorem dX4_quotientOf_50 : decode cX4_quotientOf 50 = .ok (.lconst 0, 1) := by decide +kernel
theorem dX4_quotientOf_51 : decode cX4_quotientOf 51 = .ok (.lcmp, 1) := by decide +kernel
theorem dX4_quotientOf_52 : decode cX4_quotientOf 52 = .ok (.ifCond .ge 7, 3) := by decide +kernel
theorem dX4_quotientOf_55 : decode cX4_quotientOf 55 = .ok (.iconst 1, 1) := by decide +kernel
theorem dX4_quotientOf_56 : decode cX4_quotientOf 56 = .ok (.goto 4, 3) := by decide +kernel
theorem dX4_quotientOf_59 : decode cX4_quotientOf 59 = .ok (.iconst 0, 1) := by decide +kernel
theorem dX4_quotientOf_60 : decode cX4_quotientOf 60 = .ok (.istore 10, 2) := by decide +kernel
theorem dX4_quotientOf_62 : decode cX4_quotientOf 62 = .ok (.lload 5, 2) := by decide +kernel
theorem dX4_quotientOf_64 : decode cX4_quotientOf 64 = .ok (.iconst 1, 1) := by decide +kernel
theorem dX4_quotientOf_65 : decode cX4_quotientOf 65 = .ok (.lshl, 1) := by decide +kernel
theorem dX4_quotientOf_66 : decode cX4_quotientOf 66 = .ok (.lload_n 1, 1) := by decide +kernel
theorem dX4_quotientOf_67 : decode cX4_quotientOf 67 = .ok (.iload 9, 2) := by decide +kernel
theorem dX4_quotientOf_69 : decode cX4_quotientOf 69 = .ok (.lushr, 1) := by decide +kernel
theorem dX4_quotientOf_70 : decode cX4_quotientOf 70 = .ok (.lconst 1, 1) := by decide +kernel
theorem dX4_quotientOf_71 : decode cX4_quotientOf 71 = .ok (.land, 1) := by decide +kernel
theorem dX4_quotientOf_72 : decode cX4_quotientOf 72 = .ok (.lor, 1) := by decide +kernel
theorem dX4_quotientOf_73 : decode cX4_quotientOf 73 = .ok (.lstore 5, 2) := by decide +kernel
theorem dX4_quotientOf_75 : decode cX4_quotientOf 75 = .ok (.lload 7, 2) := by decide +kernel
end
section
theorem dX4_quotientOf_77 : decode cX4_quotientOf 77 = .ok (.iconst 1, 1) := by decide +kernel
theorem dX4_quotientOf_78 : decode cX4_quotientOf 78 = .ok (.lshl, 1) := by decide +kernel
theorem dX4_quotientOf_79 : decode cX4_quotientOf 79 = .ok (.lstore 7, 2) := by decide +kernel
theorem dX4_quotientOf_81 : decode cX4_quotientOf 81 = .ok (.iload 10, 2) := by decide +kernel
theorem dX4_quotientOf_83 : decode cX4_quotientOf 83 = .ok (.ifCond .ne 15, 3) := by decide +kernel
theorem dX4_quotientOf_86 : decode cX4_quotientOf 86 = .ok (.lload_n 3, 1) := by decide +kernel
theorem dX4_quotientOf_87 : decode cX4_quotientOf 87 = .ok (.lload 5, 2) := by decide +kernel
theorem dX4_quotientOf_89 : decode cX4_quotientOf 89 = .ok (.invokestatic 263, 3) := by decide +kernel
theorem dX4_quotientOf_92 : decode cX4_quotientOf 92 = .ok (.ifCond .eq 6, 3) := by decide +kernel
theorem dX4_quotientOf_95 : decode cX4_quotientOf 95 = .ok (.goto 15, 3) := by decide +kernel
theorem dX4_quotientOf_98 : decode cX4_quotientOf 98 = .ok (.lload 5, 2) := by decide +kernel
theorem dX4_quotientOf_100 : decode cX4_quotientOf 100 = .ok (.lload_n 3, 1) := by decide +kernel
theorem dX4_quotientOf_101 : decode cX4_quotientOf 101 = .ok (.lsub, 1) := by decide +kernel
theorem dX4_quotientOf_102 : decode cX4_quotientOf 102 = .ok (.lstore 5, 2) := by decide +kernel
theorem dX4_quotientOf_104 : decode cX4_quotientOf 104 = .ok (.lload 7, 2) := by decide +kernel
theorem dX4_quotientOf_106 : decode cX4_quotientOf 106 = .ok (.lconst 1, 1) := by decide +kernel
theorem dX4_quotientOf_107 : decode cX4_quotientOf 107 = .ok (.lor, 1) := by decide +kernel
theorem dX4_quotientOf_108 : decode cX4_quotientOf 108 = .ok (.lstore 7, 2) := by decide +kernel
theorem dX4_quotientOf_110 : decode cX4_quotientOf 110 = .ok (.iinc 9 (-1), 3) := by decide +kernel
theorem dX4_quotientOf_113 : decode cX4_quotientOf 113 = .ok (.goto (-70), 3) := by decide +kernel
theorem dX4_quotientOf_116 : decode cX4_quotientOf 116 = .ok (.aload_n 0, 1) := by decide +kernel
theorem dX4_quotientOf_117 : decode cX4_quotientOf 117 = .ok (.getfield 13, 3) := by decide +kernel
theorem dX4_quotientOf_120 : decode cX4_quotientOf 120 = .ok (.bipush 6, 2) := by decide +kernel
theorem dX4_quotientOf_122 : decode cX4_quotientOf 122 = .ok (.lload 5, 2) := by decide +kernel
theorem dX4_quotientOf_124 : decode cX4_quotientOf 124 = .ok (.lastore, 1) := by decide +kernel
theorem dX4_quotientOf_125 : decode cX4_quotientOf 125 = .ok (.lload 7, 2) := by decide +kernel
theorem dX4_quotientOf_127 : decode cX4_quotientOf 127 = .ok (.lreturn, 1) := by decide +kernel
theorem dX4_trap_0 : decode cX4_trap 0 = .ok (.aload_n 0, 1) := by decide +kernel
theorem dX4_trap_1 : decode cX4_trap 1 = .ok (.iconst 0, 1) := by decide +kernel
theorem dX4_trap_2 : decode cX4_trap 2 = .ok (.putfield 215, 3) := by decide +kernel
theorem dX4_trap_5 : decode cX4_trap 5 = .ok (.iload_n 1, 1) := by decide +kernel
theorem dX4_trap_6 : decode cX4_trap 6 = .ok (.ifCond .ne 13, 3) := by decide +kernel
theorem dX4_trap_9 : decode cX4_trap 9 = .ok (.iload_n 2, 1) := by decide +kernel
theorem dX4_trap_10 : decode cX4_trap 10 = .ok (.ifCond .ne 9, 3) := by decide +kernel
theorem dX4_trap_13 : decode cX4_trap 13 = .ok (.iload_n 3, 1) := by decide +kernel
theorem dX4_trap_14 : decode cX4_trap 14 = .ok (.ifCond .ne 5, 3) := by decide +kernel
theorem dX4_trap_17 : decode cX4_trap 17 = .ok (.iconst 1, 1) := by decide +kernel
theorem dX4_trap_18 : decode cX4_trap 18 = .ok (.ireturn, 1) := by decide +kernel
theorem dX4_trap_19 : decode cX4_trap 19 = .ok (.iload_n 1, 1) := by decide +kernel
theorem dX4_trap_20 : decode cX4_trap 20 = .ok (.ifCond .ne 8, 3) := by decide +kernel
theorem dX4_trap_23 : decode cX4_trap 23 = .ok (.iload_n 2, 1) := by decide +kernel
theorem dX4_trap_24 : decode cX4_trap 24 = .ok (.iconst 1, 1) := by decide +kernel
theorem dX4_trap_25 : decode cX4_trap 25 = .ok (.if_icmp .eq 5, 3) := by decide +kernel
theorem dX4_trap_28 : decode cX4_trap 28 = .ok (.iconst 2, 1) := by decide +kernel
theorem dX4_trap_29 : decode cX4_trap 29 = .ok (.ireturn, 1) := by decide +kernel
theorem dX4_trap_30 : decode cX4_trap 30 = .ok (.aload_n 0, 1) := by decide +kernel
theorem dX4_trap_31 : decode cX4_trap 31 = .ok (.getfield 277, 3) := by decide +kernel
theorem dX4_trap_34 : decode cX4_trap 34 = .ok (.sipush 500, 3) := by decide +kernel
theorem dX4_trap_37 : decode cX4_trap 37 = .ok (.if_icmp .ge 30, 3) := by decide +kernel
theorem dX4_trap_40 : decode cX4_trap 40 = .ok (.aload_n 0, 1) := by decide +kernel
theorem dX4_trap_41 : decode cX4_trap 41 = .ok (.getfield 23, 3) := by decide +kernel
theorem dX4_trap_44 : decode cX4_trap 44 = .ok (.aload_n 0, 1) := by decide +kernel
theorem dX4_trap_45 : decode cX4_trap 45 = .ok (.getfield 277, 3) := by decide +kernel
theorem dX4_trap_48 : decode cX4_trap 48 = .ok (.aload_n 0, 1) := by decide +kernel
theorem dX4_trap_49 : decode cX4_trap 49 = .ok (.getfield 7, 3) := by decide +kernel
theorem dX4_trap_52 : decode cX4_trap 52 = .ok (.iload_n 3, 1) := by decide +kernel
theorem dX4_trap_53 : decode cX4_trap 53 = .ok (.laload, 1) := by decide +kernel
theorem dX4_trap_54 : decode cX4_trap 54 = .ok (.l2i, 1) := by decide +kernel
theorem dX4_trap_55 : decode cX4_trap 55 = .ok (.i2b, 1) := by decide +kernel
theorem dX4_trap_56 : decode cX4_trap 56 = .ok (.bastore, 1) := by decide +kernel
theorem dX4_trap_57 : decode cX4_trap 57 = .ok (.aload_n 0, 1) := by decide +kernel
theorem dX4_trap_58 : decode cX4_trap 58 = .ok (.dup, 1) := by decide +kernel
theorem dX4_trap_59 : decode cX4_trap 59 = .ok (.getfield 277, 3) := by decide +kernel
theorem dX4_trap_62 : decode cX4_trap 62 = .ok (.iconst 1, 1) := by decide +kernel
theorem dX4_trap_63 : decode cX4_trap 63 = .ok (.iadd, 1) := by decide +kernel
theorem dX4_trap_64 : decode cX4_trap 64 = .ok (.putfield 277, 3) := by decide +kernel
theorem dX4_trap_67 : decode cX4_trap 67 = .ok (.aload_n 0, 1) := by decide +kernel
theorem dX4_trap_68 : decode cX4_trap 68 = .ok (.dup, 1) := by decide +kernel
theorem dX4_trap_69 : decode cX4_trap 69 = .ok (.getfield 162, 3) := by decide +kernel
theorem dX4_trap_72 : decode cX4_trap 72 = .ok (.ldc2_w 223, 3) := by decide +kernel
theorem dX4_trap_75 : decode cX4_trap 75 = .ok (.ladd, 1) := by decide +kernel
theorem dX4_trap_76 : decode cX4_trap 76 = .ok (.putfield 162, 3) := by decide +kernel
theorem dX4_trap_79 : decode cX4_trap 79 = .ok (.iconst 0, 1) := by decide +kernel
theorem dX4_trap_80 : decode cX4_trap 80 = .ok (.ireturn, 1) := by decide +kernel
set_option maxRecDepth 20000 in
theorem ggX4_choose_X4_holds : GoodIn wsX4_choose wsX4_holds := goodIn_r _ [5] rfl (by decide +kernel)
set_option maxRecDepth 20000 in
theorem gX4_choose_X4_holds : GoodIn wsX4_choose (va_wsS RX4 219 yX4_holds wsX4_holds) := goodIn_app (goodIn_of _ (by decide +kernel)) ggX4_choose_X4_holds
set_option maxRecDepth 20000 in
theorem ggX4_choose_X4_on : GoodIn wsX4_choose wsX4_on := goodIn_r _ [9, 10, 11, 12, 23, 24, 25, 26, 27, 28, 29, 30, 31, 32, 33, 34, 35, 36, 37, 38, 39] rfl (by decide +kernel)
set_option maxRecDepth 20000 in
theorem gX4_choose_X4_on : GoodIn wsX4_choose (wsV RX4 230 RX4 yX4_on wsX4_on) := goodIn_app (goodIn_of _ (by decide +kernel)) ggX4_choose_X4_on
set_option maxRecDepth 20000 in
theorem ggX4_choose_X4_number : GoodIn wsX4_choose wsX4_number := goodIn_r _ [16, 1, 23, 24, 25, 26, 27, 28, 29, 30, 31, 32, 33, 34, 35, 36, 37, 38, 39] rfl (by decide +kernel)
set_option maxRecDepth 20000 in
theorem gX4_choose_X4_number : GoodIn wsX4_choose (wsV RX4 237 RX4 yX4_number wsX4_number) := goodIn_app (goodIn_of _ (by decide +kernel)) ggX4_choose_X4_number
set_option maxRecDepth 20000 in
theorem ggX4_choose_X4_done : GoodIn wsX4_choose wsX4_done := goodIn_r _ [20, 21, 22, 1, 6, 7, 8, 4, 9, 10, 11, 12, 23, 24, 25, 26, 27, 28, 29, 30, 31, 32, 33, 34, 35, 36, 37, 38, 39] rfl (by decide +kernel)
set_option maxRecDepth 20000 in
theorem gX4_choose_X4_done : GoodIn wsX4_choose (wsV RX4 269 RX4 yX4_done wsX4_done) := goodIn_app (goodIn_of _ (by decide +kernel)) ggX4_choose_X4_done
theorem dX4_choose_0 : decode cX4_choose 0 = .ok (.iload_n 1, 1) := by decide +kernel
theorem dX4_choose_1 : decode cX4_choose 1 = .ok (.iconst 1, 1) := by decide +kernel
theorem dX4_choose_2 : decode cX4_choose 2 = .ok (.ishr, 1) := by decide +kernel
theorem dX4_choose_3 : decode cX4_choose 3 = .ok (.bipush 7, 2) := by decide +kernel
theorem dX4_choose_5 : decode cX4_choose 5 = .ok (.iand, 1) := by decide +kernel
theorem dX4_choose_6 : decode cX4_choose 6 = .ok (.aload_n 0, 1) := by decide +kernel
theorem dX4_choose_7 : decode cX4_choose 7 = .ok (.getfield 7, 3) := by decide +kernel
theorem dX4_choose_10 : decode cX4_choose 10 = .ok (.iload_n 3, 1) := by decide +kernel
theorem dX4_choose_11 : decode cX4_choose 11 = .ok (.laload, 1) := by decide +kernel
theorem dX4_choose_12 : decode cX4_choose 12 = .ok (.invokestatic 219, 3) := by decide +kernel
theorem dX4_choose_15 : decode cX4_choose 15 = .ok (.istore 5, 2) := by decide +kernel
theorem dX4_choose_17 : decode cX4_choose 17 = .ok (.iload 5, 2) := by decide +kernel
theorem dX4_choose_19 : decode cX4_choose 19 = .ok (.ifCond .ne 16, 3) := by decide +kernel
theorem dX4_choose_22 : decode cX4_choose 22 = .ok (.iload_n 1, 1) := by decide +kernel
theorem dX4_choose_23 : decode cX4_choose 23 = .ok (.bipush 112, 2) := by decide +kernel
theorem dX4_choose_25 : decode cX4_choose 25 = .ok (.if_icmp .ge 10, 3) := by decide +kernel
theorem dX4_choose_28 : decode cX4_choose 28 = .ok (.aload_n 0, 1) := by decide +kernel
theorem dX4_choose_29 : decode cX4_choose 29 = .ok (.invokevirtual 230, 3) := by decide +kernel
theorem dX4_choose_32 : decode cX4_choose 32 = .ok (.goto 24, 3) := by decide +kernel
theorem dX4_choose_35 : decode cX4_choose 35 = .ok (.aload_n 0, 1) := by decide +kernel
theorem dX4_choose_36 : decode cX4_choose 36 = .ok (.iload_n 2, 1) := by decide +kernel
theorem dX4_choose_37 : decode cX4_choose 37 = .ok (.iload 5, 2) := by decide +kernel
theorem dX4_choose_39 : decode cX4_choose 39 = .ok (.ifCond .eq 13, 3) := by decide +kernel
theorem dX4_choose_42 : decode cX4_choose 42 = .ok (.aload_n 0, 1) := by decide +kernel
theorem dX4_choose_43 : decode cX4_choose 43 = .ok (.iload_n 1, 1) := by decide +kernel
theorem dX4_choose_44 : decode cX4_choose 44 = .ok (.iload 4, 2) := by decide +kernel
theorem dX4_choose_46 : decode cX4_choose 46 = .ok (.invokevirtual 237, 3) := by decide +kernel
theorem dX4_choose_49 : decode cX4_choose 49 = .ok (.goto 4, 3) := by decide +kernel
theorem dX4_choose_52 : decode cX4_choose 52 = .ok (.lconst 0, 1) := by decide +kernel
theorem dX4_choose_53 : decode cX4_choose 53 = .ok (.invokevirtual 269, 3) := by decide +kernel
theorem dX4_choose_56 : decode cX4_choose 56 = .ok (.ireturn, 1) := by decide +kernel
set_option maxRecDepth 20000 in
theorem ggX4_access_X4_number : GoodIn wsX4_access wsX4_number := goodIn_r _ [10, 1, 44, 45, 46, 47, 48, 49, 50, 51, 52, 53, 54, 55, 56, 57, 58, 59, 60] rfl (by decide +kernel)
set_option maxRecDepth 20000 in
theorem gX4_access_X4_number : GoodIn wsX4_access (wsV RX4 237 RX4 yX4_number wsX4_number) := goodIn_app (goodIn_of _ (by decide +kernel)) ggX4_access_X4_number
set_option maxRecDepth 20000 in
theorem ggX4_access_X4_done : GoodIn wsX4_access wsX4_done := goodIn_r _ [14, 15, 16, 1, 17, 18, 19, 9, 20, 2, 3, 21, 44, 45, 46, 47, 48, 49, 50, 51, 52, 53, 54, 55, 56, 57, 58, 59, 60] rfl (by decide +kernel)
set_option maxRecDepth 20000 in
theorem gX4_access_X4_done : GoodIn wsX4_access (wsV RX4 269 RX4 yX4_done wsX4_done) := goodIn_app (goodIn_of _ (by decide +kernel)) ggX4_access_X4_done
set_option maxRecDepth 20000 in
theorem ggX4_access_X4_beyond : GoodIn wsX4_access wsX4_beyond := goodIn_r _ [24, 25] rfl (by decide +kernel)
set_option maxRecDepth 20000 in
theorem gX4_access_X4_beyond : GoodIn wsX4_access (va_wsS RX4 166 yX4_beyond wsX4_beyond) := goodIn_app (goodIn_of _ (by decide +kernel)) ggX4_access_X4_beyond
set_option maxRecDepth 20000 in
theorem ggX4_access_X4_m : GoodIn wsX4_access wsX4_m := goodIn_r _ [29, 30, 44, 45, 46, 47, 48, 49, 50, 51, 52, 53, 54, 55, 56, 57, 58, 59, 60] rfl (by decide +kernel)
set_option maxRecDepth 20000 in
theorem gX4_access_X4_m : GoodIn wsX4_access (wsV RX4 170 RX4 yX4_m wsX4_m) := goodIn_app (goodIn_of _ (by decide +kernel)) ggX4_access_X4_m
set_option maxRecDepth 20000 in
theorem ggX4_access_X4_signed : GoodIn wsX4_access wsX4_signed := goodIn_r _ [33] rfl (by decide +kernel)
set_option maxRecDepth 20000 in
theorem gX4_access_X4_signed : GoodIn wsX4_access (va_wsS RX4 283 yX4_signed wsX4_signed) := goodIn_app (goodIn_of _ (by decide +kernel)) ggX4_access_X4_signed
set_option maxRecDepth 20000 in
theorem ggX4_access_X4_over : GoodIn wsX4_access wsX4_over := goodIn_r _ [37, 38, 39, 44, 45, 46, 47, 48, 49, 50, 51, 52, 53, 54, 55, 56, 57, 58, 59, 60] rfl (by decide +kernel)
set_option maxRecDepth 20000 in
theorem gX4_access_X4_over : GoodIn wsX4_access (wsV RX4 245 RX4 yX4_over wsX4_over) := goodIn_app (goodIn_of _ (by decide +kernel)) ggX4_access_X4_over
set_option maxRecDepth 20000 in
theorem ggX4_access_X4_m_ : GoodIn wsX4_access wsX4_m_ := goodIn_r _ [43, 30, 44, 45, 46, 47, 48, 49, 50, 51, 52, 53, 54, 55, 56, 57, 58, 59, 60] rfl (by decide +kernel)
set_option maxRecDepth 20000 in
theorem gX4_access_X4_m_ : GoodIn wsX4_access (wsV RX4 286 RX4 yX4_m_ wsX4_m_) := goodIn_app (goodIn_of _ (by decide +kernel)) ggX4_access_X4_m_
set_option maxRecDepth 20000 in
theorem ggX4_access_X4_on : GoodIn wsX4_access wsX4_on := goodIn_r _ [20, 2, 3, 21, 44, 45, 46, 47, 48, 49, 50, 51, 52, 53, 54, 55, 56, 57, 58, 59, 60] rfl (by decide +kernel)
set_option maxRecDepth 20000 in
theorem gX4_access_X4_on : GoodIn wsX4_access (wsV RX4 230 RX4 yX4_on wsX4_on) := goodIn_app (goodIn_of _ (by decide +kernel)) ggX4_access_X4_on
theorem dX4_access_0 : decode cX4_access 0 = .ok (.iload_n 1, 1) := by decide +kernel
theorem dX4_access_1 : decode cX4_access 1 = .ok (.sipush 254, 3) := by decide +kernel
theorem dX4_access_4 : decode cX4_access 4 = .ok (.iand, 1) := by decide +kernel
theorem dX4_access_5 : decode cX4_access 5 = .ok (.istore 5, 2) := by decide +kernel
theorem dX4_access_7 : decode cX4_access 7 = .ok (.iload 5, 2) := by decide +kernel
theorem dX4_access_9 : decode cX4_access 9 = .ok (.sipush 144, 3) := by decide +kernel
theorem dX4_access_12 : decode cX4_access 12 = .ok (.if_icmp .lt 11, 3) := by decide +kernel
theorem dX4_access_15 : decode cX4_access 15 = .ok (.iload 5, 2) := by decide +kernel
theorem dX4_access_17 : decode cX4_access 17 = .ok (.sipush 146, 3) := by decide +kernel
theorem dX4_access_20 : decode cX4_access 20 = .ok (.if_icmp .ne 7, 3) := by decide +kernel
theorem dX4_access_23 : decode cX4_access 23 = .ok (.iconst 1, 1) := by decide +kernel
theorem dX4_access_24 : decode cX4_access 24 = .ok (.goto 4, 3) := by decide +kernel
theorem dX4_access_27 : decode cX4_access 27 = .ok (.iconst 0, 1) := by decide +kernel
theorem dX4_access_28 : decode cX4_access 28 = .ok (.istore 6, 2) := by decide +kernel
theorem dX4_access_30 : decode cX4_access 30 = .ok (.iload 5, 2) := by decide +kernel
theorem dX4_access_32 : decode cX4_access 32 = .ok (.sipush 160, 3) := by decide +kernel
theorem dX4_access_35 : decode cX4_access 35 = .ok (.if_icmp .lt 11, 3) := by decide +kernel
theorem dX4_access_38 : decode cX4_access 38 = .ok (.iload 5, 2) := by decide +kernel
theorem dX4_access_40 : decode cX4_access 40 = .ok (.sipush 174, 3) := by decide +kernel
theorem dX4_access_43 : decode cX4_access 43 = .ok (.if_icmp .le 19, 3) := by decide +kernel
theorem dX4_access_46 : decode cX4_access 46 = .ok (.iload 5, 2) := by decide +kernel
theorem dX4_access_48 : decode cX4_access 48 = .ok (.sipush 178, 3) := by decide +kernel
theorem dX4_access_51 : decode cX4_access 51 = .ok (.if_icmp .eq 11, 3) := by decide +kernel
theorem dX4_access_54 : decode cX4_access 54 = .ok (.iload 5, 2) := by decide +kernel
theorem dX4_access_56 : decode cX4_access 56 = .ok (.sipush 180, 3) := by decide +kernel
theorem dX4_access_59 : decode cX4_access 59 = .ok (.if_icmp .ne 7, 3) := by decide +kernel
theorem dX4_access_62 : decode cX4_access 62 = .ok (.iconst 1, 1) := by decide +kernel
theorem dX4_access_63 : decode cX4_access 63 = .ok (.goto 4, 3) := by decide +kernel
theorem dX4_access_66 : decode cX4_access 66 = .ok (.iconst 0, 1) := by decide +kernel
theorem dX4_access_67 : decode cX4_access 67 = .ok (.istore 7, 2) := by decide +kernel
theorem dX4_access_69 : decode cX4_access 69 = .ok (.iload 6, 2) := by decide +kernel
theorem dX4_access_71 : decode cX4_access 71 = .ok (.ifCond .ne 18, 3) := by decide +kernel
theorem dX4_access_74 : decode cX4_access 74 = .ok (.iload 7, 2) := by decide +kernel
theorem dX4_access_76 : decode cX4_access 76 = .ok (.ifCond .ne 13, 3) := by decide +kernel
theorem dX4_access_79 : decode cX4_access 79 = .ok (.iload 5, 2) := by decide +kernel
theorem dX4_access_81 : decode cX4_access 81 = .ok (.sipush 158, 3) := by decide +kernel
theorem dX4_access_84 : decode cX4_access 84 = .ok (.if_icmp .eq 5, 3) := by decide +kernel
theorem dX4_access_87 : decode cX4_access 87 = .ok (.iconst 2, 1) := by decide +kernel
theorem dX4_access_88 : decode cX4_access 88 = .ok (.ireturn, 1) := by decide +kernel
theorem dX4_access_89 : decode cX4_access 89 = .ok (.aload_n 0, 1) := by decide +kernel
theorem dX4_access_90 : decode cX4_access 90 = .ok (.getfield 7, 3) := by decide +kernel
theorem dX4_access_93 : decode cX4_access 93 = .ok (.iload_n 3, 1) := by decide +kernel
theorem dX4_access_94 : decode cX4_access 94 = .ok (.laload, 1) := by decide +kernel
theorem dX4_access_95 : decode cX4_access 95 = .ok (.aload_n 0, 1) := by decide +kernel
theorem dX4_access_96 : decode cX4_access 96 = .ok (.iload_n 1, 1) := by decide +kernel
theorem dX4_access_97 : decode cX4_access 97 = .ok (.iload 4, 2) := by decide +kernel
theorem dX4_access_99 : decode cX4_access 99 = .ok (.invokevirtual 237, 3) := by decide +kernel
theorem dX4_access_102 : decode cX4_access 102 = .ok (.ladd, 1) := by decide +kernel
theorem dX4_access_103 : decode cX4_access 103 = .ok (.lstore 8, 2) := by decide +kernel
theorem dX4_access_105 : decode cX4_access 105 = .ok (.iload 5, 2) := by decide +kernel
theorem dX4_access_107 : decode cX4_access 107 = .ok (.sipush 158, 3) := by decide +kernel
theorem dX4_access_110 : decode cX4_access 110 = .ok (.if_icmp .ne 33, 3) := by decide +kernel
theorem dX4_access_113 : decode cX4_access 113 = .ok (.aload_n 0, 1) := by decide +kernel
theorem dX4_access_114 : decode cX4_access 114 = .ok (.getfield 162, 3) := by decide +kernel
theorem dX4_access_117 : decode cX4_access 117 = .ok (.lstore 10, 2) := by decide +kernel
theorem dX4_access_119 : decode cX4_access 119 = .ok (.aload_n 0, 1) := by decide +kernel
theorem dX4_access_120 : decode cX4_access 120 = .ok (.iload_n 2, 1) := by decide +kernel
theorem dX4_access_121 : decode cX4_access 121 = .ok (.lload 10, 2) := by decide +kernel
theorem dX4_access_123 : decode cX4_access 123 = .ok (.ldc2_w 223, 3) := by decide +kernel
theorem dX4_access_126 : decode cX4_access 126 = .ok (.ladd, 1) := by decide +kernel
theorem dX4_access_127 : decode cX4_access 127 = .ok (.invokevirtual 269, 3) := by decide +kernel
theorem dX4_access_130 : decode cX4_access 130 = .ok (.pop, 1) := by decide +kernel
theorem dX4_access_131 : decode cX4_access 131 = .ok (.aload_n 0, 1) := by decide +kernel
theorem dX4_access_132 : decode cX4_access 132 = .ok (.lload 8, 2) := by decide +kernel
theorem dX4_access_134 : decode cX4_access 134 = .ok (.ldc2_w 225, 3) := by decide +kernel
theorem dX4_access_137 : decode cX4_access 137 = .ok (.land, 1) := by decide +kernel
theorem dX4_access_138 : decode cX4_access 138 = .ok (.putfield 162, 3) := by decide +kernel
theorem dX4_access_141 : decode cX4_access 141 = .ok (.iconst 0, 1) := by decide +kernel
theorem dX4_access_142 : decode cX4_access 142 = .ok (.ireturn, 1) := by decide +kernel
theorem dX4_access_143 : decode cX4_access 143 = .ok (.lload 8, 2) := by decide +kernel
theorem dX4_access_145 : decode cX4_access 145 = .ok (.invokestatic 166, 3) := by decide +kernel
theorem dX4_access_148 : decode cX4_access 148 = .ok (.ifCond .eq 5, 3) := by decide +kernel
theorem dX4_access_151 : decode cX4_access 151 = .ok (.iconst 3, 1) := by decide +kernel
theorem dX4_access_152 : decode cX4_access 152 = .ok (.ireturn, 1) := by decide +kernel
theorem dX4_access_153 : decode cX4_access 153 = .ok (.aload_n 0, 1) := by decide +kernel
theorem dX4_access_154 : decode cX4_access 154 = .ok (.dup, 1) := by decide +kernel
theorem dX4_access_155 : decode cX4_access 155 = .ok (.getfield 280, 3) := by decide +kernel
theorem dX4_access_158 : decode cX4_access 158 = .ok (.lconst 1, 1) := by decide +kernel
theorem dX4_access_159 : decode cX4_access 159 = .ok (.ladd, 1) := by decide +kernel
theorem dX4_access_160 : decode cX4_access 160 = .ok (.putfield 280, 3) := by decide +kernel
theorem dX4_access_163 : decode cX4_access 163 = .ok (.iload 5, 2) := by decide +kernel
theorem dX4_access_165 : decode cX4_access 165 = .ok (.sipush 146, 3) := by decide +kernel
theorem dX4_access_168 : decode cX4_access 168 = .ok (.if_icmp .eq 11, 3) := by decide +kernel
theorem dX4_access_171 : decode cX4_access 171 = .ok (.iload 5, 2) := by decide +kernel
theorem dX4_access_173 : decode cX4_access 173 = .ok (.sipush 178, 3) := by decide +kernel
theorem dX4_access_176 : decode cX4_access 176 = .ok (.if_icmp .ne 7, 3) := by decide +kernel
theorem dX4_access_179 : decode cX4_access 179 = .ok (.iconst 4, 1) := by decide +kernel
theorem dX4_access_180 : decode cX4_access 180 = .ok (.goto 24, 3) := by decide +kernel
theorem dX4_access_183 : decode cX4_access 183 = .ok (.iload 5, 2) := by decide +kernel
theorem dX4_access_185 : decode cX4_access 185 = .ok (.sipush 180, 3) := by decide +kernel
theorem dX4_access_188 : decode cX4_access 188 = .ok (.if_icmp .ne 8, 3) := by decide +kernel
theorem dX4_access_191 : decode cX4_access 191 = .ok (.bipush 8, 2) := by decide +kernel
theorem dX4_access_193 : decode cX4_access 193 = .ok (.goto 11, 3) := by decide +kernel
theorem dX4_access_196 : decode cX4_access 196 = .ok (.iconst 1, 1) := by decide +kernel
theorem dX4_access_197 : decode cX4_access 197 = .ok (.iload 5, 2) := by decide +kernel
theorem dX4_access_199 : decode cX4_access 199 = .ok (.iconst 2, 1) := by decide +kernel
theorem dX4_access_200 : decode cX4_access 200 = .ok (.ishr, 1) := by decide +kernel
theorem dX4_access_201 : decode cX4_access 201 = .ok (.iconst 3, 1) := by decide +kernel
theorem dX4_access_202 : decode cX4_access 202 = .ok (.iand, 1) := by decide +kernel
theorem dX4_access_203 : decode cX4_access 203 = .ok (.ishl, 1) := by decide +kernel
theorem dX4_access_204 : decode cX4_access 204 = .ok (.istore 10, 2) := by decide +kernel
theorem dX4_access_206 : decode cX4_access 206 = .ok (.iload 5, 2) := by decide +kernel
theorem dX4_access_208 : decode cX4_access 208 = .ok (.sipush 146, 3) := by decide +kernel
theorem dX4_access_211 : decode cX4_access 211 = .ok (.if_icmp .ne 19, 3) := by decide +kernel
theorem dX4_access_214 : decode cX4_access 214 = .ok (.aload_n 0, 1) := by decide +kernel
theorem dX4_access_215 : decode cX4_access 215 = .ok (.iload_n 2, 1) := by decide +kernel
theorem dX4_access_216 : decode cX4_access 216 = .ok (.aload_n 0, 1) := by decide +kernel
theorem dX4_access_217 : decode cX4_access 217 = .ok (.lload 8, 2) := by decide +kernel
theorem dX4_access_219 : decode cX4_access 219 = .ok (.iconst 4, 1) := by decide +kernel
theorem dX4_access_220 : decode cX4_access 220 = .ok (.invokevirtual 170, 3) := by decide +kernel
theorem dX4_access_223 : decode cX4_access 223 = .ok (.bipush 32, 2) := by decide +kernel
theorem dX4_access_225 : decode cX4_access 225 = .ok (.lshl, 1) := by decide +kernel
theorem dX4_access_226 : decode cX4_access 226 = .ok (.invokevirtual 269, 3) := by decide +kernel
theorem dX4_access_229 : decode cX4_access 229 = .ok (.ireturn, 1) := by decide +kernel
theorem dX4_access_230 : decode cX4_access 230 = .ok (.iload 6, 2) := by decide +kernel
theorem dX4_access_232 : decode cX4_access 232 = .ok (.ifCond .eq 40, 3) := by decide +kernel
theorem dX4_access_235 : decode cX4_access 235 = .ok (.aload_n 0, 1) := by decide +kernel
theorem dX4_access_236 : decode cX4_access 236 = .ok (.iload_n 2, 1) := by decide +kernel
theorem dX4_access_237 : decode cX4_access 237 = .ok (.iload 5, 2) := by decide +kernel
theorem dX4_access_239 : decode cX4_access 239 = .ok (.iconst 2, 1) := by decide +kernel
theorem dX4_access_240 : decode cX4_access 240 = .ok (.iand, 1) := by decide +kernel
theorem dX4_access_241 : decode cX4_access 241 = .ok (.ifCond .ne 19, 3) := by decide +kernel
theorem dX4_access_244 : decode cX4_access 244 = .ok (.aload_n 0, 1) := by decide +kernel
theorem dX4_access_245 : decode cX4_access 245 = .ok (.lload 8, 2) := by decide +kernel
theorem dX4_access_247 : decode cX4_access 247 = .ok (.iload 10, 2) := by decide +kernel
theorem dX4_access_249 : decode cX4_access 249 = .ok (.invokevirtual 170, 3) := by decide +kernel
theorem dX4_access_252 : decode cX4_access 252 = .ok (.iload 10, 2) := by decide +kernel
theorem dX4_access_254 : decode cX4_access 254 = .ok (.invokestatic 283, 3) := by decide +kernel
theorem dX4_access_257 : decode cX4_access 257 = .ok (.goto 11, 3) := by decide +kernel
theorem dX4_access_260 : decode cX4_access 260 = .ok (.aload_n 0, 1) := by decide +kernel
theorem dX4_access_261 : decode cX4_access 261 = .ok (.lload 8, 2) := by decide +kernel
theorem dX4_access_263 : decode cX4_access 263 = .ok (.iload 10, 2) := by decide +kernel
theorem dX4_access_265 : decode cX4_access 265 = .ok (.invokevirtual 170, 3) := by decide +kernel
theorem dX4_access_268 : decode cX4_access 268 = .ok (.invokevirtual 269, 3) := by decide +kernel
theorem dX4_access_271 : decode cX4_access 271 = .ok (.ireturn, 1) := by decide +kernel
theorem dX4_access_272 : decode cX4_access 272 = .ok (.iload 5, 2) := by decide +kernel
theorem dX4_access_274 : decode cX4_access 274 = .ok (.sipush 178, 3) := by decide +kernel
theorem dX4_access_277 : decode cX4_access 277 = .ok (.if_icmp .ne 15, 3) := by decide +kernel
theorem dX4_access_280 : decode cX4_access 280 = .ok (.aload_n 0, 1) := by decide +kernel
theorem dX4_access_281 : decode cX4_access 281 = .ok (.getfield 7, 3) := by decide +kernel
theorem dX4_access_284 : decode cX4_access 284 = .ok (.iload_n 2, 1) := by decide +kernel
theorem dX4_access_285 : decode cX4_access 285 = .ok (.laload, 1) := by decide +kernel
theorem dX4_access_286 : decode cX4_access 286 = .ok (.bipush 32, 2) := by decide +kernel
theorem dX4_access_288 : decode cX4_access 288 = .ok (.lushr, 1) := by decide +kernel
theorem dX4_access_289 : decode cX4_access 289 = .ok (.goto 22, 3) := by decide +kernel
theorem dX4_access_292 : decode cX4_access 292 = .ok (.iload 5, 2) := by decide +kernel
theorem dX4_access_294 : decode cX4_access 294 = .ok (.sipush 180, 3) := by decide +kernel
theorem dX4_access_297 : decode cX4_access 297 = .ok (.if_icmp .ne 8, 3) := by decide +kernel
theorem dX4_access_300 : decode cX4_access 300 = .ok (.iload_n 2, 1) := by decide +kernel
theorem dX4_access_301 : decode cX4_access 301 = .ok (.i2l, 1) := by decide +kernel
theorem dX4_access_302 : decode cX4_access 302 = .ok (.goto 9, 3) := by decide +kernel
theorem dX4_access_305 : decode cX4_access 305 = .ok (.aload_n 0, 1) := by decide +kernel
theorem dX4_access_306 : decode cX4_access 306 = .ok (.getfield 7, 3) := by decide +kernel
theorem dX4_access_309 : decode cX4_access 309 = .ok (.iload_n 2, 1) := by decide +kernel
theorem dX4_access_310 : decode cX4_access 310 = .ok (.laload, 1) := by decide +kernel
theorem dX4_access_311 : decode cX4_access 311 = .ok (.lstore 11, 2) := by decide +kernel
theorem dX4_access_313 : decode cX4_access 313 = .ok (.iload 5, 2) := by decide +kernel
theorem dX4_access_315 : decode cX4_access 315 = .ok (.sipush 176, 3) := by decide +kernel
theorem dX4_access_318 : decode cX4_access 318 = .ok (.if_icmp .ge 32, 3) := by decide +kernel
theorem dX4_access_321 : decode cX4_access 321 = .ok (.iload 5, 2) := by decide +kernel
theorem dX4_access_323 : decode cX4_access 323 = .ok (.iconst 2, 1) := by decide +kernel
theorem dX4_access_324 : decode cX4_access 324 = .ok (.iand, 1) := by decide +kernel
theorem dX4_access_325 : decode cX4_access 325 = .ok (.ifCond .ne 25, 3) := by decide +kernel
theorem dX4_access_328 : decode cX4_access 328 = .ok (.aload_n 0, 1) := by decide +kernel
theorem dX4_access_329 : decode cX4_access 329 = .ok (.lload 11, 2) := by decide +kernel
theorem dX4_access_331 : decode cX4_access 331 = .ok (.iload 10, 2) := by decide +kernel
theorem dX4_access_333 : decode cX4_access 333 = .ok (.invokestatic 283, 3) := by decide +kernel
theorem dX4_access_336 : decode cX4_access 336 = .ok (.lload 11, 2) := by decide +kernel
theorem dX4_access_338 : decode cX4_access 338 = .ok (.lcmp, 1) := by decide +kernel
theorem dX4_access_339 : decode cX4_access 339 = .ok (.ifCond .eq 7, 3) := by decide +kernel
theorem dX4_access_342 : decode cX4_access 342 = .ok (.iconst 1, 1) := by decide +kernel
theorem dX4_access_343 : decode cX4_access 343 = .ok (.goto 4, 3) := by decide +kernel
theorem dX4_access_346 : decode cX4_access 346 = .ok (.iconst 0, 1) := by decide +kernel
theorem dX4_access_347 : decode cX4_access 347 = .ok (.invokevirtual 245, 3) := by decide +kernel
theorem dX4_access_350 : decode cX4_access 350 = .ok (.aload_n 0, 1) := by decide +kernel
theorem dX4_access_351 : decode cX4_access 351 = .ok (.lload 8, 2) := by decide +kernel
theorem dX4_access_353 : decode cX4_access 353 = .ok (.iload 10, 2) := by decide +kernel
theorem dX4_access_355 : decode cX4_access 355 = .ok (.lload 11, 2) := by decide +kernel
theorem dX4_access_357 : decode cX4_access 357 = .ok (.invokevirtual 286, 3) := by decide +kernel
theorem dX4_access_360 : decode cX4_access 360 = .ok (.aload_n 0, 1) := by decide +kernel
theorem dX4_access_361 : decode cX4_access 361 = .ok (.invokevirtual 230, 3) := by decide +kernel
theorem dX4_access_364 : decode cX4_access 364 = .ok (.ireturn, 1) := by decide +kernel
set_option maxRecDepth 20000 in
theorem ggX4_bits_X4_number : GoodIn wsX4_bits wsX4_number := goodIn_r _ [8, 1, 33, 34, 35, 36, 37, 38, 39, 40, 41, 42, 43, 44, 45, 46, 47, 48, 49] rfl (by decide +kernel)
set_option maxRecDepth 20000 in
theorem gX4_bits_X4_number : GoodIn wsX4_bits (wsV RX4 237 RX4 yX4_number wsX4_number) := goodIn_app (goodIn_of _ (by decide +kernel)) ggX4_bits_X4_number
set_option maxRecDepth 20000 in
theorem ggX4_bits_X4_matrix : GoodIn wsX4_bits wsX4_matrix := goodIn_r _ [11, 12] rfl (by decide +kernel)
set_option maxRecDepth 20000 in
theorem gX4_bits_X4_matrix : GoodIn wsX4_bits (va_wsS RX4 289 yX4_matrix wsX4_matrix) := goodIn_app (goodIn_of _ (by decide +kernel)) ggX4_bits_X4_matrix
set_option maxRecDepth 20000 in
theorem ggX4_bits_X4_differences : GoodIn wsX4_bits wsX4_differences := goodIn_r _ [15, 16, 17, 7, 18, 19] rfl (by decide +kernel)
set_option maxRecDepth 20000 in
theorem gX4_bits_X4_differences : GoodIn wsX4_bits (va_wsS RX4 293 yX4_differences wsX4_differences) := goodIn_app (goodIn_of _ (by decide +kernel)) ggX4_bits_X4_differences
set_option maxRecDepth 20000 in
theorem ggX4_bits_X4_done : GoodIn wsX4_bits wsX4_done := goodIn_r _ [23, 24, 25, 1, 26, 27, 28, 7, 29, 30, 31, 32, 33, 34, 35, 36, 37, 38, 39, 40, 41, 42, 43, 44, 45, 46, 47, 48, 49] rfl (by decide +kernel)
set_option maxRecDepth 20000 in
theorem gX4_bits_X4_done : GoodIn wsX4_bits (wsV RX4 269 RX4 yX4_done wsX4_done) := goodIn_app (goodIn_of _ (by decide +kernel)) ggX4_bits_X4_done
theorem dX4_bits_0 : decode cX4_bits 0 = .ok (.aload_n 0, 1) := by decide +kernel
theorem dX4_bits_1 : decode cX4_bits 1 = .ok (.getfield 7, 3) := by decide +kernel
theorem dX4_bits_4 : decode cX4_bits 4 = .ok (.iload_n 3, 1) := by decide +kernel
theorem dX4_bits_5 : decode cX4_bits 5 = .ok (.laload, 1) := by decide +kernel
theorem dX4_bits_6 : decode cX4_bits 6 = .ok (.lstore 5, 2) := by decide +kernel
theorem dX4_bits_8 : decode cX4_bits 8 = .ok (.aload_n 0, 1) := by decide +kernel
theorem dX4_bits_9 : decode cX4_bits 9 = .ok (.iload_n 1, 1) := by decide +kernel
theorem dX4_bits_10 : decode cX4_bits 10 = .ok (.iload 4, 2) := by decide +kernel
theorem dX4_bits_12 : decode cX4_bits 12 = .ok (.invokevirtual 237, 3) := by decide +kernel
theorem dX4_bits_15 : decode cX4_bits 15 = .ok (.lstore 7, 2) := by decide +kernel
theorem dX4_bits_17 : decode cX4_bits 17 = .ok (.lconst 0, 1) := by decide +kernel
theorem dX4_bits_18 : decode cX4_bits 18 = .ok (.lstore 9, 2) := by decide +kernel
theorem dX4_bits_20 : decode cX4_bits 20 = .ok (.iload_n 1, 1) := by decide +kernel
theorem dX4_bits_21 : decode cX4_bits 21 = .ok (.sipush 254, 3) := by decide +kernel
theorem dX4_bits_24 : decode cX4_bits 24 = .ok (.iand, 1) := by decide +kernel
theorem dX4_bits_25 : decode cX4_bits 25 = .ok (.tableswitch 333 192 222 #[139, 333, 149, 333, 163, 333, 177, 333, 187, 333, 197, 333, 211, 333, 225, 333, 333, 333, 333, 333, 333, 333, 333, 333, 239, 333, 267, 333, 305, 333, 305], 139) := by decide +kernel
theorem dX4_bits_164 : decode cX4_bits 164 = .ok (.lload 5, 2) := by decide +kernel
theorem dX4_bits_166 : decode cX4_bits 166 = .ok (.lload 7, 2) := by decide +kernel
theorem dX4_bits_168 : decode cX4_bits 168 = .ok (.lor, 1) := by decide +kernel
theorem dX4_bits_169 : decode cX4_bits 169 = .ok (.lstore 9, 2) := by decide +kernel
theorem dX4_bits_171 : decode cX4_bits 171 = .ok (.goto 203, 3) := by decide +kernel
theorem dX4_bits_174 : decode cX4_bits 174 = .ok (.lload 5, 2) := by decide +kernel
theorem dX4_bits_176 : decode cX4_bits 176 = .ok (.lload 7, 2) := by decide +kernel
theorem dX4_bits_178 : decode cX4_bits 178 = .ok (.ldc2_w 261, 3) := by decide +kernel
theorem dX4_bits_181 : decode cX4_bits 181 = .ok (.lxor, 1) := by decide +kernel
theorem dX4_bits_182 : decode cX4_bits 182 = .ok (.lor, 1) := by decide +kernel
theorem dX4_bits_183 : decode cX4_bits 183 = .ok (.lstore 9, 2) := by decide +kernel
theorem dX4_bits_185 : decode cX4_bits 185 = .ok (.goto 189, 3) := by decide +kernel
theorem dX4_bits_188 : decode cX4_bits 188 = .ok (.lload 5, 2) := by decide +kernel
theorem dX4_bits_190 : decode cX4_bits 190 = .ok (.lload 7, 2) := by decide +kernel
theorem dX4_bits_192 : decode cX4_bits 192 = .ok (.lor, 1) := by decide +kernel
theorem dX4_bits_193 : decode cX4_bits 193 = .ok (.ldc2_w 261, 3) := by decide +kernel
theorem dX4_bits_196 : decode cX4_bits 196 = .ok (.lxor, 1) := by decide +kernel
theorem dX4_bits_197 : decode cX4_bits 197 = .ok (.lstore 9, 2) := by decide +kernel
theorem dX4_bits_199 : decode cX4_bits 199 = .ok (.goto 175, 3) := by decide +kernel
theorem dX4_bits_202 : decode cX4_bits 202 = .ok (.lload 5, 2) := by decide +kernel
theorem dX4_bits_204 : decode cX4_bits 204 = .ok (.lload 7, 2) := by decide +kernel
theorem dX4_bits_206 : decode cX4_bits 206 = .ok (.lxor, 1) := by decide +kernel
theorem dX4_bits_207 : decode cX4_bits 207 = .ok (.lstore 9, 2) := by decide +kernel
theorem dX4_bits_209 : decode cX4_bits 209 = .ok (.goto 165, 3) := by decide +kernel
theorem dX4_bits_212 : decode cX4_bits 212 = .ok (.lload 5, 2) := by decide +kernel
theorem dX4_bits_214 : decode cX4_bits 214 = .ok (.lload 7, 2) := by decide +kernel
theorem dX4_bits_216 : decode cX4_bits 216 = .ok (.land, 1) := by decide +kernel
theorem dX4_bits_217 : decode cX4_bits 217 = .ok (.lstore 9, 2) := by decide +kernel
theorem dX4_bits_219 : decode cX4_bits 219 = .ok (.goto 155, 3) := by decide +kernel
theorem dX4_bits_222 : decode cX4_bits 222 = .ok (.lload 5, 2) := by decide +kernel
theorem dX4_bits_224 : decode cX4_bits 224 = .ok (.lload 7, 2) := by decide +kernel
theorem dX4_bits_226 : decode cX4_bits 226 = .ok (.ldc2_w 261, 3) := by decide +kernel
theorem dX4_bits_229 : decode cX4_bits 229 = .ok (.lxor, 1) := by decide +kernel
theorem dX4_bits_230 : decode cX4_bits 230 = .ok (.land, 1) := by decide +kernel
theorem dX4_bits_231 : decode cX4_bits 231 = .ok (.lstore 9, 2) := by decide +kernel
theorem dX4_bits_233 : decode cX4_bits 233 = .ok (.goto 141, 3) := by decide +kernel
theorem dX4_bits_236 : decode cX4_bits 236 = .ok (.lload 5, 2) := by decide +kernel
theorem dX4_bits_238 : decode cX4_bits 238 = .ok (.lload 7, 2) := by decide +kernel
theorem dX4_bits_240 : decode cX4_bits 240 = .ok (.land, 1) := by decide +kernel
theorem dX4_bits_241 : decode cX4_bits 241 = .ok (.ldc2_w 261, 3) := by decide +kernel
theorem dX4_bits_244 : decode cX4_bits 244 = .ok (.lxor, 1) := by decide +kernel
theorem dX4_bits_245 : decode cX4_bits 245 = .ok (.lstore 9, 2) := by decide +kernel
theorem dX4_bits_247 : decode cX4_bits 247 = .ok (.goto 127, 3) := by decide +kernel
theorem dX4_bits_250 : decode cX4_bits 250 = .ok (.lload 5, 2) := by decide +kernel
theorem dX4_bits_252 : decode cX4_bits 252 = .ok (.lload 7, 2) := by decide +kernel
theorem dX4_bits_254 : decode cX4_bits 254 = .ok (.lxor, 1) := by decide +kernel
theorem dX4_bits_255 : decode cX4_bits 255 = .ok (.ldc2_w 261, 3) := by decide +kernel
theorem dX4_bits_258 : decode cX4_bits 258 = .ok (.lxor, 1) := by decide +kernel
theorem dX4_bits_259 : decode cX4_bits 259 = .ok (.lstore 9, 2) := by decide +kernel
theorem dX4_bits_261 : decode cX4_bits 261 = .ok (.goto 113, 3) := by decide +kernel
theorem dX4_bits_264 : decode cX4_bits 264 = .ok (.lload 5, 2) := by decide +kernel
theorem dX4_bits_266 : decode cX4_bits 266 = .ok (.aload_n 0, 1) := by decide +kernel
theorem dX4_bits_267 : decode cX4_bits 267 = .ok (.getfield 13, 3) := by decide +kernel
theorem dX4_bits_270 : decode cX4_bits 270 = .ok (.iconst 5, 1) := by decide +kernel
theorem dX4_bits_271 : decode cX4_bits 271 = .ok (.laload, 1) := by decide +kernel
theorem dX4_bits_272 : decode cX4_bits 272 = .ok (.land, 1) := by decide +kernel
theorem dX4_bits_273 : decode cX4_bits 273 = .ok (.lload 7, 2) := by decide +kernel
theorem dX4_bits_275 : decode cX4_bits 275 = .ok (.aload_n 0, 1) := by decide +kernel
theorem dX4_bits_276 : decode cX4_bits 276 = .ok (.getfield 13, 3) := by decide +kernel
theorem dX4_bits_279 : decode cX4_bits 279 = .ok (.iconst 5, 1) := by decide +kernel
theorem dX4_bits_280 : decode cX4_bits 280 = .ok (.laload, 1) := by decide +kernel
theorem dX4_bits_281 : decode cX4_bits 281 = .ok (.ldc2_w 261, 3) := by decide +kernel
theorem dX4_bits_284 : decode cX4_bits 284 = .ok (.lxor, 1) := by decide +kernel
theorem dX4_bits_285 : decode cX4_bits 285 = .ok (.land, 1) := by decide +kernel
theorem dX4_bits_286 : decode cX4_bits 286 = .ok (.lor, 1) := by decide +kernel
theorem dX4_bits_287 : decode cX4_bits 287 = .ok (.lstore 9, 2) := by decide +kernel
theorem dX4_bits_289 : decode cX4_bits 289 = .ok (.goto 85, 3) := by decide +kernel
theorem dX4_bits_292 : decode cX4_bits 292 = .ok (.iconst 0, 1) := by decide +kernel
theorem dX4_bits_293 : decode cX4_bits 293 = .ok (.istore 11, 2) := by decide +kernel
theorem dX4_bits_295 : decode cX4_bits 295 = .ok (.iload 11, 2) := by decide +kernel
theorem dX4_bits_297 : decode cX4_bits 297 = .ok (.bipush 64, 2) := by decide +kernel
theorem dX4_bits_299 : decode cX4_bits 299 = .ok (.if_icmp .ge 28, 3) := by decide +kernel
theorem dX4_bits_302 : decode cX4_bits 302 = .ok (.lload 9, 2) := by decide +kernel
theorem dX4_bits_304 : decode cX4_bits 304 = .ok (.lload 5, 2) := by decide +kernel
theorem dX4_bits_306 : decode cX4_bits 306 = .ok (.lload 7, 2) := by decide +kernel
theorem dX4_bits_308 : decode cX4_bits 308 = .ok (.ldc2_w 261, 3) := by decide +kernel
theorem dX4_bits_311 : decode cX4_bits 311 = .ok (.lxor, 1) := by decide +kernel
theorem dX4_bits_312 : decode cX4_bits 312 = .ok (.land, 1) := by decide +kernel
theorem dX4_bits_313 : decode cX4_bits 313 = .ok (.iload 11, 2) := by decide +kernel
theorem dX4_bits_315 : decode cX4_bits 315 = .ok (.lushr, 1) := by decide +kernel
theorem dX4_bits_316 : decode cX4_bits 316 = .ok (.lconst 1, 1) := by decide +kernel
theorem dX4_bits_317 : decode cX4_bits 317 = .ok (.land, 1) := by decide +kernel
theorem dX4_bits_318 : decode cX4_bits 318 = .ok (.ladd, 1) := by decide +kernel
theorem dX4_bits_319 : decode cX4_bits 319 = .ok (.lstore 9, 2) := by decide +kernel
theorem dX4_bits_321 : decode cX4_bits 321 = .ok (.iinc 11 1, 3) := by decide +kernel
theorem dX4_bits_324 : decode cX4_bits 324 = .ok (.goto (-29), 3) := by decide +kernel
theorem dX4_bits_327 : decode cX4_bits 327 = .ok (.goto 47, 3) := by decide +kernel
theorem dX4_bits_330 : decode cX4_bits 330 = .ok (.lload 5, 2) := by decide +kernel
theorem dX4_bits_332 : decode cX4_bits 332 = .ok (.lload 7, 2) := by decide +kernel
theorem dX4_bits_334 : decode cX4_bits 334 = .ok (.iload_n 1, 1) := by decide +kernel
theorem dX4_bits_335 : decode cX4_bits 335 = .ok (.sipush 254, 3) := by decide +kernel
theorem dX4_bits_338 : decode cX4_bits 338 = .ok (.iand, 1) := by decide +kernel
theorem dX4_bits_339 : decode cX4_bits 339 = .ok (.sipush 222, 3) := by decide +kernel
theorem dX4_bits_342 : decode cX4_bits 342 = .ok (.if_icmp .ne 7, 3) := by decide +kernel
theorem dX4_bits_345 : decode cX4_bits 345 = .ok (.iconst 1, 1) := by decide +kernel
theorem dX4_bits_346 : decode cX4_bits 346 = .ok (.goto 4, 3) := by decide +kernel
theorem dX4_bits_349 : decode cX4_bits 349 = .ok (.iconst 0, 1) := by decide +kernel
theorem dX4_bits_350 : decode cX4_bits 350 = .ok (.invokestatic 289, 3) := by decide +kernel
theorem dX4_bits_353 : decode cX4_bits 353 = .ok (.lstore 9, 2) := by decide +kernel
theorem dX4_bits_355 : decode cX4_bits 355 = .ok (.goto 19, 3) := by decide +kernel
theorem dX4_bits_358 : decode cX4_bits 358 = .ok (.lload 5, 2) := by decide +kernel
theorem dX4_bits_360 : decode cX4_bits 360 = .ok (.lload 7, 2) := by decide +kernel
theorem dX4_bits_362 : decode cX4_bits 362 = .ok (.iconst 1, 1) := by decide +kernel
theorem dX4_bits_363 : decode cX4_bits 363 = .ok (.iload_n 1, 1) := by decide +kernel
theorem dX4_bits_364 : decode cX4_bits 364 = .ok (.iconst 1, 1) := by decide +kernel
theorem dX4_bits_365 : decode cX4_bits 365 = .ok (.ishr, 1) := by decide +kernel
theorem dX4_bits_366 : decode cX4_bits 366 = .ok (.iconst 3, 1) := by decide +kernel
theorem dX4_bits_367 : decode cX4_bits 367 = .ok (.iand, 1) := by decide +kernel
theorem dX4_bits_368 : decode cX4_bits 368 = .ok (.ishl, 1) := by decide +kernel
theorem dX4_bits_369 : decode cX4_bits 369 = .ok (.invokestatic 293, 3) := by decide +kernel
theorem dX4_bits_372 : decode cX4_bits 372 = .ok (.lstore 9, 2) := by decide +kernel
theorem dX4_bits_374 : decode cX4_bits 374 = .ok (.aload_n 0, 1) := by decide +kernel
theorem dX4_bits_375 : decode cX4_bits 375 = .ok (.iload_n 2, 1) := by decide +kernel
theorem dX4_bits_376 : decode cX4_bits 376 = .ok (.lload 9, 2) := by decide +kernel
theorem dX4_bits_378 : decode cX4_bits 378 = .ok (.invokevirtual 269, 3) := by decide +kernel
theorem dX4_bits_381 : decode cX4_bits 381 = .ok (.ireturn, 1) := by decide +kernel
set_option maxRecDepth 20000 in
theorem ggX4_differences_X4_above : GoodIn wsX4_differences wsX4_above := goodIn_r _ [4, 5] rfl (by decide +kernel)
set_option maxRecDepth 20000 in
theorem gX4_differences_X4_above : GoodIn wsX4_differences (va_wsS RX4 263 yX4_above wsX4_above) := goodIn_app (goodIn_of _ (by decide +kernel)) ggX4_differences_X4_above
theorem dX4_differences_0 : decode cX4_differences 0 = .ok (.iload 4, 2) := by decide +kernel
theorem dX4_differences_2 : decode cX4_differences 2 = .ok (.bipush 8, 2) := by decide +kernel
theorem dX4_differences_4 : decode cX4_differences 4 = .ok (.if_icmp .ne 19, 3) := by decide +kernel
theorem dX4_differences_7 : decode cX4_differences 7 = .ok (.lload_n 0, 1) := by decide +kernel
theorem dX4_differences_8 : decode cX4_differences 8 = .ok (.lload_n 2, 1) := by decide +kernel
theorem dX4_differences_9 : decode cX4_differences 9 = .ok (.invokestatic 263, 3) := by decide +kernel
theorem dX4_differences_12 : decode cX4_differences 12 = .ok (.ifCond .eq 9, 3) := by decide +kernel
theorem dX4_differences_15 : decode cX4_differences 15 = .ok (.lload_n 0, 1) := by decide +kernel
theorem dX4_differences_16 : decode cX4_differences 16 = .ok (.lload_n 2, 1) := by decide +kernel
theorem dX4_differences_17 : decode cX4_differences 17 = .ok (.lsub, 1) := by decide +kernel
theorem dX4_differences_18 : decode cX4_differences 18 = .ok (.goto 4, 3) := by decide +kernel
theorem dX4_differences_21 : decode cX4_differences 21 = .ok (.lconst 0, 1) := by decide +kernel
theorem dX4_differences_22 : decode cX4_differences 22 = .ok (.lreturn, 1) := by decide +kernel
theorem dX4_differences_23 : decode cX4_differences 23 = .ok (.lconst 0, 1) := by decide +kernel
theorem dX4_differences_24 : decode cX4_differences 24 = .ok (.lstore 5, 2) := by decide +kernel
theorem dX4_differences_26 : decode cX4_differences 26 = .ok (.lconst 1, 1) := by decide +kernel
theorem dX4_differences_27 : decode cX4_differences 27 = .ok (.bipush 8, 2) := by decide +kernel
theorem dX4_differences_29 : decode cX4_differences 29 = .ok (.iload 4, 2) := by decide +kernel
theorem dX4_differences_31 : decode cX4_differences 31 = .ok (.imul, 1) := by decide +kernel
theorem dX4_differences_32 : decode cX4_differences 32 = .ok (.lshl, 1) := by decide +kernel
theorem dX4_differences_33 : decode cX4_differences 33 = .ok (.lconst 1, 1) := by decide +kernel
theorem dX4_differences_34 : decode cX4_differences 34 = .ok (.lsub, 1) := by decide +kernel
theorem dX4_differences_35 : decode cX4_differences 35 = .ok (.lstore 7, 2) := by decide +kernel
theorem dX4_differences_37 : decode cX4_differences 37 = .ok (.iconst 0, 1) := by decide +kernel
theorem dX4_differences_38 : decode cX4_differences 38 = .ok (.istore 9, 2) := by decide +kernel
theorem dX4_differences_40 : decode cX4_differences 40 = .ok (.iload 9, 2) := by decide +kernel
theorem dX4_differences_42 : decode cX4_differences 42 = .ok (.bipush 64, 2) := by decide +kernel
theorem dX4_differences_44 : decode cX4_differences 44 = .ok (.if_icmp .ge 50, 3) := by decide +kernel
theorem dX4_differences_47 : decode cX4_differences 47 = .ok (.lload_n 0, 1) := by decide +kernel
theorem dX4_differences_48 : decode cX4_differences 48 = .ok (.iload 9, 2) := by decide +kernel
theorem dX4_differences_50 : decode cX4_differences 50 = .ok (.lushr, 1) := by decide +kernel
theorem dX4_differences_51 : decode cX4_differences 51 = .ok (.lload 7, 2) := by decide +kernel
theorem dX4_differences_53 : decode cX4_differences 53 = .ok (.land, 1) := by decide +kernel
theorem dX4_differences_54 : decode cX4_differences 54 = .ok (.lload_n 2, 1) := by decide +kernel
theorem dX4_differences_55 : decode cX4_differences 55 = .ok (.iload 9, 2) := by decide +kernel
theorem dX4_differences_57 : decode cX4_differences 57 = .ok (.lushr, 1) := by decide +kernel
theorem dX4_differences_58 : decode cX4_differences 58 = .ok (.lload 7, 2) := by decide +kernel
theorem dX4_differences_60 : decode cX4_differences 60 = .ok (.land, 1) := by decide +kernel
theorem dX4_differences_61 : decode cX4_differences 61 = .ok (.lsub, 1) := by decide +kernel
theorem dX4_differences_62 : decode cX4_differences 62 = .ok (.lstore 10, 2) := by decide +kernel
theorem dX4_differences_64 : decode cX4_differences 64 = .ok (.lload 10, 2) := by decide +kernel
theorem dX4_differences_66 : decode cX4_differences 66 = .ok (.lconst 0, 1) := by decide +kernel
theorem dX4_differences_67 : decode cX4_differences 67 = .ok (.lcmp, 1) := by decide +kernel
theorem dX4_differences_68 : decode cX4_differences 68 = .ok (.ifCond .le 13, 3) := by decide +kernel
theorem dX4_differences_71 : decode cX4_differences 71 = .ok (.lload 5, 2) := by decide +kernel
theorem dX4_differences_73 : decode cX4_differences 73 = .ok (.lload 10, 2) := by decide +kernel
theorem dX4_differences_75 : decode cX4_differences 75 = .ok (.iload 9, 2) := by decide +kernel
theorem dX4_differences_77 : decode cX4_differences 77 = .ok (.lshl, 1) := by decide +kernel
theorem dX4_differences_78 : decode cX4_differences 78 = .ok (.lor, 1) := by decide +kernel
theorem dX4_differences_79 : decode cX4_differences 79 = .ok (.lstore 5, 2) := by decide +kernel
theorem dX4_differences_81 : decode cX4_differences 81 = .ok (.iload 9, 2) := by decide +kernel
theorem dX4_differences_83 : decode cX4_differences 83 = .ok (.bipush 8, 2) := by decide +kernel
theorem dX4_differences_85 : decode cX4_differences 85 = .ok (.iload 4, 2) := by decide +kernel
theorem dX4_differences_87 : decode cX4_differences 87 = .ok (.imul, 1) := by decide +kernel
theorem dX4_differences_88 : decode cX4_differences 88 = .ok (.iadd, 1) := by decide +kernel
theorem dX4_differences_89 : decode cX4_differences 89 = .ok (.istore 9, 2) := by decide +kernel
theorem dX4_differences_91 : decode cX4_differences 91 = .ok (.goto (-51), 3) := by decide +kernel
theorem dX4_differences_94 : decode cX4_differences 94 = .ok (.lload 5, 2) := by decide +kernel
theorem dX4_differences_96 : decode cX4_differences 96 = .ok (.lreturn, 1) := by decide +kernel
theorem dX4_matrix_0 : decode cX4_matrix 0 = .ok (.lconst 0, 1) := by decide +kernel
theorem dX4_matrix_1 : decode cX4_matrix 1 = .ok (.lstore 5, 2) := by decide +kernel
theorem dX4_matrix_3 : decode cX4_matrix 3 = .ok (.iconst 0, 1) := by decide +kernel
theorem dX4_matrix_4 : decode cX4_matrix 4 = .ok (.istore 7, 2) := by decide +kernel
theorem dX4_matrix_6 : decode cX4_matrix 6 = .ok (.iload 7, 2) := by decide +kernel
theorem dX4_matrix_8 : decode cX4_matrix 8 = .ok (.bipush 8, 2) := by decide +kernel
theorem dX4_matrix_10 : decode cX4_matrix 10 = .ok (.if_icmp .ge 100, 3) := by decide +kernel
theorem dX4_matrix_13 : decode cX4_matrix 13 = .ok (.lconst 0, 1) := by decide +kernel
theorem dX4_matrix_14 : decode cX4_matrix 14 = .ok (.lstore 8, 2) := by decide +kernel
theorem dX4_matrix_16 : decode cX4_matrix 16 = .ok (.iconst 0, 1) := by decide +kernel
theorem dX4_matrix_17 : decode cX4_matrix 17 = .ok (.istore 10, 2) := by decide +kernel
theorem dX4_matrix_19 : decode cX4_matrix 19 = .ok (.iload 10, 2) := by decide +kernel
theorem dX4_matrix_21 : decode cX4_matrix 21 = .ok (.bipush 8, 2) := by decide +kernel
theorem dX4_matrix_23 : decode cX4_matrix 23 = .ok (.if_icmp .ge 71, 3) := by decide +kernel
theorem dX4_matrix_26 : decode cX4_matrix 26 = .ok (.lload_n 2, 1) := by decide +kernel
theorem dX4_matrix_27 : decode cX4_matrix 27 = .ok (.bipush 56, 2) := by decide +kernel
theorem dX4_matrix_29 : decode cX4_matrix 29 = .ok (.bipush 8, 2) := by decide +kernel
theorem dX4_matrix_31 : decode cX4_matrix 31 = .ok (.iload 7, 2) := by decide +kernel
theorem dX4_matrix_33 : decode cX4_matrix 33 = .ok (.imul, 1) := by decide +kernel
theorem dX4_matrix_34 : decode cX4_matrix 34 = .ok (.isub, 1) := by decide +kernel
theorem dX4_matrix_35 : decode cX4_matrix 35 = .ok (.bipush 7, 2) := by decide +kernel
theorem dX4_matrix_37 : decode cX4_matrix 37 = .ok (.iadd, 1) := by decide +kernel
theorem dX4_matrix_38 : decode cX4_matrix 38 = .ok (.iload 10, 2) := by decide +kernel
theorem dX4_matrix_40 : decode cX4_matrix 40 = .ok (.isub, 1) := by decide +kernel
theorem dX4_matrix_41 : decode cX4_matrix 41 = .ok (.lushr, 1) := by decide +kernel
theorem dX4_matrix_42 : decode cX4_matrix 42 = .ok (.lconst 1, 1) := by decide +kernel
theorem dX4_matrix_43 : decode cX4_matrix 43 = .ok (.land, 1) := by decide +kernel
theorem dX4_matrix_44 : decode cX4_matrix 44 = .ok (.lconst 0, 1) := by decide +kernel
theorem dX4_matrix_45 : decode cX4_matrix 45 = .ok (.lcmp, 1) := by decide +kernel
theorem dX4_matrix_46 : decode cX4_matrix 46 = .ok (.ifCond .ne 6, 3) := by decide +kernel
theorem dX4_matrix_49 : decode cX4_matrix 49 = .ok (.goto 39, 3) := by decide +kernel
theorem dX4_matrix_52 : decode cX4_matrix 52 = .ok (.lload_n 0, 1) := by decide +kernel
theorem dX4_matrix_53 : decode cX4_matrix 53 = .ok (.bipush 56, 2) := by decide +kernel
theorem dX4_matrix_55 : decode cX4_matrix 55 = .ok (.bipush 8, 2) := by decide +kernel
theorem dX4_matrix_57 : decode cX4_matrix 57 = .ok (.iload 10, 2) := by decide +kernel
theorem dX4_matrix_59 : decode cX4_matrix 59 = .ok (.imul, 1) := by decide +kernel
theorem dX4_matrix_60 : decode cX4_matrix 60 = .ok (.isub, 1) := by decide +kernel
theorem dX4_matrix_61 : decode cX4_matrix 61 = .ok (.lushr, 1) := by decide +kernel
theorem dX4_matrix_62 : decode cX4_matrix 62 = .ok (.ldc2_w 297, 3) := by decide +kernel
theorem dX4_matrix_65 : decode cX4_matrix 65 = .ok (.land, 1) := by decide +kernel
theorem dX4_matrix_66 : decode cX4_matrix 66 = .ok (.lstore 11, 2) := by decide +kernel
theorem dX4_matrix_68 : decode cX4_matrix 68 = .ok (.iload 4, 2) := by decide +kernel
theorem dX4_matrix_70 : decode cX4_matrix 70 = .ok (.ifCond .eq 11, 3) := by decide +kernel
theorem dX4_matrix_73 : decode cX4_matrix 73 = .ok (.lload 8, 2) := by decide +kernel
theorem dX4_matrix_75 : decode cX4_matrix 75 = .ok (.lload 11, 2) := by decide +kernel
theorem dX4_matrix_77 : decode cX4_matrix 77 = .ok (.lxor, 1) := by decide +kernel
theorem dX4_matrix_78 : decode cX4_matrix 78 = .ok (.goto 8, 3) := by decide +kernel
theorem dX4_matrix_81 : decode cX4_matrix 81 = .ok (.lload 8, 2) := by decide +kernel
theorem dX4_matrix_83 : decode cX4_matrix 83 = .ok (.lload 11, 2) := by decide +kernel
theorem dX4_matrix_85 : decode cX4_matrix 85 = .ok (.lor, 1) := by decide +kernel
theorem dX4_matrix_86 : decode cX4_matrix 86 = .ok (.lstore 8, 2) := by decide +kernel
theorem dX4_matrix_88 : decode cX4_matrix 88 = .ok (.iinc 10 1, 3) := by decide +kernel
theorem dX4_matrix_91 : decode cX4_matrix 91 = .ok (.goto (-72), 3) := by decide +kernel
theorem dX4_matrix_94 : decode cX4_matrix 94 = .ok (.lload 5, 2) := by decide +kernel
theorem dX4_matrix_96 : decode cX4_matrix 96 = .ok (.bipush 8, 2) := by decide +kernel
theorem dX4_matrix_98 : decode cX4_matrix 98 = .ok (.lshl, 1) := by decide +kernel
theorem dX4_matrix_99 : decode cX4_matrix 99 = .ok (.lload 8, 2) := by decide +kernel
theorem dX4_matrix_101 : decode cX4_matrix 101 = .ok (.lor, 1) := by decide +kernel
theorem dX4_matrix_102 : decode cX4_matrix 102 = .ok (.lstore 5, 2) := by decide +kernel
theorem dX4_matrix_104 : decode cX4_matrix 104 = .ok (.iinc 7 1, 3) := by decide +kernel
theorem dX4_matrix_107 : decode cX4_matrix 107 = .ok (.goto (-101), 3) := by decide +kernel
theorem dX4_matrix_110 : decode cX4_matrix 110 = .ok (.lload 5, 2) := by decide +kernel
theorem dX4_matrix_112 : decode cX4_matrix 112 = .ok (.lreturn, 1) := by decide +kernel
set_option maxRecDepth 20000 in
theorem ggX4_high_X4_done : GoodIn wsX4_high wsX4_done := goodIn_r _ [15, 16, 17, 4, 18, 19, 20, 14, 21, 6, 7, 3, 26, 27, 28, 29, 30, 31, 32, 33, 34, 35, 36, 37, 38, 39, 40, 41, 42] rfl (by decide +kernel)
set_option maxRecDepth 20000 in
theorem gX4_high_X4_done : GoodIn wsX4_high (wsV RX4 269 RX4 yX4_done wsX4_done) := goodIn_app (goodIn_of _ (by decide +kernel)) ggX4_high_X4_done
set_option maxRecDepth 20000 in
theorem ggX4_high_X4_number : GoodIn wsX4_high wsX4_number := goodIn_r _ [25, 4, 26, 27, 28, 29, 30, 31, 32, 33, 34, 35, 36, 37, 38, 39, 40, 41, 42] rfl (by decide +kernel)
set_option maxRecDepth 20000 in
theorem gX4_high_X4_number : GoodIn wsX4_high (wsV RX4 237 RX4 yX4_number wsX4_number) := goodIn_app (goodIn_of _ (by decide +kernel)) ggX4_high_X4_number
theorem dX4_high_0 : decode cX4_high 0 = .ok (.iload 5, 2) := by decide +kernel
theorem dX4_high_2 : decode cX4_high 2 = .ok (.ldc 179, 2) := by decide +kernel
theorem dX4_high_4 : decode cX4_high 4 = .ok (.iand, 1) := by decide +kernel
theorem dX4_high_5 : decode cX4_high 5 = .ok (.i2l, 1) := by decide +kernel
theorem dX4_high_6 : decode cX4_high 6 = .ok (.lstore 6, 2) := by decide +kernel
theorem dX4_high_8 : decode cX4_high 8 = .ok (.lload 6, 2) := by decide +kernel
theorem dX4_high_10 : decode cX4_high 10 = .ok (.bipush 48, 2) := by decide +kernel
theorem dX4_high_12 : decode cX4_high 12 = .ok (.bipush 16, 2) := by decide +kernel
theorem dX4_high_14 : decode cX4_high 14 = .ok (.iload_n 1, 1) := by decide +kernel
theorem dX4_high_15 : decode cX4_high 15 = .ok (.iconst 3, 1) := by decide +kernel
theorem dX4_high_16 : decode cX4_high 16 = .ok (.iand, 1) := by decide +kernel
theorem dX4_high_17 : decode cX4_high 17 = .ok (.imul, 1) := by decide +kernel
theorem dX4_high_18 : decode cX4_high 18 = .ok (.isub, 1) := by decide +kernel
theorem dX4_high_19 : decode cX4_high 19 = .ok (.lshl, 1) := by decide +kernel
theorem dX4_high_20 : decode cX4_high 20 = .ok (.lstore 8, 2) := by decide +kernel
theorem dX4_high_22 : decode cX4_high 22 = .ok (.iload 5, 2) := by decide +kernel
theorem dX4_high_24 : decode cX4_high 24 = .ok (.ldc_w 299, 3) := by decide +kernel
theorem dX4_high_27 : decode cX4_high 27 = .ok (.iand, 1) := by decide +kernel
theorem dX4_high_28 : decode cX4_high 28 = .ok (.i2l, 1) := by decide +kernel
theorem dX4_high_29 : decode cX4_high 29 = .ok (.lstore 10, 2) := by decide +kernel
theorem dX4_high_31 : decode cX4_high 31 = .ok (.aload_n 0, 1) := by decide +kernel
theorem dX4_high_32 : decode cX4_high 32 = .ok (.iconst 0, 1) := by decide +kernel
theorem dX4_high_33 : decode cX4_high 33 = .ok (.putfield 215, 3) := by decide +kernel
theorem dX4_high_36 : decode cX4_high 36 = .ok (.iload_n 1, 1) := by decide +kernel
theorem dX4_high_37 : decode cX4_high 37 = .ok (.iconst 2, 1) := by decide +kernel
theorem dX4_high_38 : decode cX4_high 38 = .ok (.ishr, 1) := by decide +kernel
theorem dX4_high_39 : decode cX4_high 39 = .ok (.bipush 7, 2) := by decide +kernel
theorem dX4_high_41 : decode cX4_high 41 = .ok (.iand, 1) := by decide +kernel
theorem dX4_high_42 : decode cX4_high 42 = .ok (.tableswitch 87 0 3 #[30, 38, 53, 68], 30) := by decide +kernel
theorem dX4_high_72 : decode cX4_high 72 = .ok (.aload_n 0, 1) := by decide +kernel
theorem dX4_high_73 : decode cX4_high 73 = .ok (.iload_n 2, 1) := by decide +kernel
theorem dX4_high_74 : decode cX4_high 74 = .ok (.lload 8, 2) := by decide +kernel
theorem dX4_high_76 : decode cX4_high 76 = .ok (.invokevirtual 269, 3) := by decide +kernel
theorem dX4_high_79 : decode cX4_high 79 = .ok (.ireturn, 1) := by decide +kernel
theorem dX4_high_80 : decode cX4_high 80 = .ok (.aload_n 0, 1) := by decide +kernel
theorem dX4_high_81 : decode cX4_high 81 = .ok (.iload_n 2, 1) := by decide +kernel
theorem dX4_high_82 : decode cX4_high 82 = .ok (.aload_n 0, 1) := by decide +kernel
theorem dX4_high_83 : decode cX4_high 83 = .ok (.getfield 7, 3) := by decide +kernel
theorem dX4_high_86 : decode cX4_high 86 = .ok (.iload_n 2, 1) := by decide +kernel
theorem dX4_high_87 : decode cX4_high 87 = .ok (.laload, 1) := by decide +kernel
theorem dX4_high_88 : decode cX4_high 88 = .ok (.lload 8, 2) := by decide +kernel
theorem dX4_high_90 : decode cX4_high 90 = .ok (.ladd, 1) := by decide +kernel
theorem dX4_high_91 : decode cX4_high 91 = .ok (.invokevirtual 269, 3) := by decide +kernel
theorem dX4_high_94 : decode cX4_high 94 = .ok (.ireturn, 1) := by decide +kernel
theorem dX4_high_95 : decode cX4_high 95 = .ok (.aload_n 0, 1) := by decide +kernel
theorem dX4_high_96 : decode cX4_high 96 = .ok (.iload_n 2, 1) := by decide +kernel
theorem dX4_high_97 : decode cX4_high 97 = .ok (.aload_n 0, 1) := by decide +kernel
theorem dX4_high_98 : decode cX4_high 98 = .ok (.getfield 7, 3) := by decide +kernel
theorem dX4_high_101 : decode cX4_high 101 = .ok (.iload_n 2, 1) := by decide +kernel
theorem dX4_high_102 : decode cX4_high 102 = .ok (.laload, 1) := by decide +kernel
theorem dX4_high_103 : decode cX4_high 103 = .ok (.lload 8, 2) := by decide +kernel
theorem dX4_high_105 : decode cX4_high 105 = .ok (.lor, 1) := by decide +kernel
theorem dX4_high_106 : decode cX4_high 106 = .ok (.invokevirtual 269, 3) := by decide +kernel
theorem dX4_high_109 : decode cX4_high 109 = .ok (.ireturn, 1) := by decide +kernel
theorem dX4_high_110 : decode cX4_high 110 = .ok (.aload_n 0, 1) := by decide +kernel
theorem dX4_high_111 : decode cX4_high 111 = .ok (.iload_n 2, 1) := by decide +kernel
theorem dX4_high_112 : decode cX4_high 112 = .ok (.aload_n 0, 1) := by decide +kernel
theorem dX4_high_113 : decode cX4_high 113 = .ok (.getfield 7, 3) := by decide +kernel
theorem dX4_high_116 : decode cX4_high 116 = .ok (.iload_n 2, 1) := by decide +kernel
theorem dX4_high_117 : decode cX4_high 117 = .ok (.laload, 1) := by decide +kernel
theorem dX4_high_118 : decode cX4_high 118 = .ok (.lload 8, 2) := by decide +kernel
theorem dX4_high_120 : decode cX4_high 120 = .ok (.ldc2_w 261, 3) := by decide +kernel
theorem dX4_high_123 : decode cX4_high 123 = .ok (.lxor, 1) := by decide +kernel
theorem dX4_high_124 : decode cX4_high 124 = .ok (.land, 1) := by decide +kernel
theorem dX4_high_125 : decode cX4_high 125 = .ok (.invokevirtual 269, 3) := by decide +kernel
theorem dX4_high_128 : decode cX4_high 128 = .ok (.ireturn, 1) := by decide +kernel
theorem dX4_high_129 : decode cX4_high 129 = .ok (.iload_n 1, 1) := by decide +kernel
theorem dX4_high_130 : decode cX4_high 130 = .ok (.tableswitch 223 240 254 #[74, 91, 223, 223, 112, 129, 150, 150, 223, 223, 223, 223, 223, 185, 199], 74) := by decide +kernel
theorem dX4_high_204 : decode cX4_high 204 = .ok (.aload_n 0, 1) := by decide +kernel
theorem dX4_high_205 : decode cX4_high 205 = .ok (.dup, 1) := by decide +kernel
theorem dX4_high_206 : decode cX4_high 206 = .ok (.getfield 162, 3) := by decide +kernel
theorem dX4_high_209 : decode cX4_high 209 = .ok (.ldc2_w 223, 3) := by decide +kernel
theorem dX4_high_212 : decode cX4_high 212 = .ok (.lload 10, 2) := by decide +kernel
theorem dX4_high_214 : decode cX4_high 214 = .ok (.lmul, 1) := by decide +kernel
theorem dX4_high_215 : decode cX4_high 215 = .ok (.ladd, 1) := by decide +kernel
theorem dX4_high_216 : decode cX4_high 216 = .ok (.putfield 162, 3) := by decide +kernel
theorem dX4_high_219 : decode cX4_high 219 = .ok (.iconst 0, 1) := by decide +kernel
theorem dX4_high_220 : decode cX4_high 220 = .ok (.ireturn, 1) := by decide +kernel
theorem dX4_high_221 : decode cX4_high 221 = .ok (.aload_n 0, 1) := by decide +kernel
theorem dX4_high_222 : decode cX4_high 222 = .ok (.dup, 1) := by decide +kernel
theorem dX4_high_223 : decode cX4_high 223 = .ok (.getfield 162, 3) := by decide +kernel
theorem dX4_high_226 : decode cX4_high 226 = .ok (.ldc2_w 223, 3) := by decide +kernel
theorem dX4_high_229 : decode cX4_high 229 = .ok (.ldc2_w 300, 3) := by decide +kernel
theorem dX4_high_232 : decode cX4_high 232 = .ok (.lload 10, 2) := by decide +kernel
theorem dX4_high_234 : decode cX4_high 234 = .ok (.lsub, 1) := by decide +kernel
theorem dX4_high_235 : decode cX4_high 235 = .ok (.lmul, 1) := by decide +kernel
theorem dX4_high_236 : decode cX4_high 236 = .ok (.lsub, 1) := by decide +kernel
theorem dX4_high_237 : decode cX4_high 237 = .ok (.putfield 162, 3) := by decide +kernel
theorem dX4_high_240 : decode cX4_high 240 = .ok (.iconst 0, 1) := by decide +kernel
theorem dX4_high_241 : decode cX4_high 241 = .ok (.ireturn, 1) := by decide +kernel
theorem dX4_high_242 : decode cX4_high 242 = .ok (.aload_n 0, 1) := by decide +kernel
theorem dX4_high_243 : decode cX4_high 243 = .ok (.iload_n 2, 1) := by decide +kernel
theorem dX4_high_244 : decode cX4_high 244 = .ok (.aload_n 0, 1) := by decide +kernel
theorem dX4_high_245 : decode cX4_high 245 = .ok (.getfield 162, 3) := by decide +kernel
theorem dX4_high_248 : decode cX4_high 248 = .ok (.ldc2_w 223, 3) := by decide +kernel
theorem dX4_high_251 : decode cX4_high 251 = .ok (.lload 6, 2) := by decide +kernel
theorem dX4_high_253 : decode cX4_high 253 = .ok (.lmul, 1) := by decide +kernel
theorem dX4_high_254 : decode cX4_high 254 = .ok (.ladd, 1) := by decide +kernel
theorem dX4_high_255 : decode cX4_high 255 = .ok (.invokevirtual 269, 3) := by decide +kernel
theorem dX4_high_258 : decode cX4_high 258 = .ok (.ireturn, 1) := by decide +kernel
theorem dX4_high_259 : decode cX4_high 259 = .ok (.aload_n 0, 1) := by decide +kernel
theorem dX4_high_260 : decode cX4_high 260 = .ok (.iload_n 2, 1) := by decide +kernel
theorem dX4_high_261 : decode cX4_high 261 = .ok (.aload_n 0, 1) := by decide +kernel
theorem dX4_high_262 : decode cX4_high 262 = .ok (.getfield 162, 3) := by decide +kernel
theorem dX4_high_265 : decode cX4_high 265 = .ok (.ldc2_w 223, 3) := by decide +kernel
theorem dX4_high_268 : decode cX4_high 268 = .ok (.ldc2_w 302, 3) := by decide +kernel
theorem dX4_high_271 : decode cX4_high 271 = .ok (.lload 6, 2) := by decide +kernel
theorem dX4_high_273 : decode cX4_high 273 = .ok (.lsub, 1) := by decide +kernel
theorem dX4_high_274 : decode cX4_high 274 = .ok (.lmul, 1) := by decide +kernel
theorem dX4_high_275 : decode cX4_high 275 = .ok (.lsub, 1) := by decide +kernel
theorem dX4_high_276 : decode cX4_high 276 = .ok (.invokevirtual 269, 3) := by decide +kernel
theorem dX4_high_279 : decode cX4_high 279 = .ok (.ireturn, 1) := by decide +kernel
theorem dX4_high_280 : decode cX4_high 280 = .ok (.iload_n 2, 1) := by decide +kernel
theorem dX4_high_281 : decode cX4_high 281 = .ok (.bipush 7, 2) := by decide +kernel
theorem dX4_high_283 : decode cX4_high 283 = .ok (.if_icmp .le 5, 3) := by decide +kernel
theorem dX4_high_286 : decode cX4_high 286 = .ok (.iconst 2, 1) := by decide +kernel
theorem dX4_high_287 : decode cX4_high 287 = .ok (.ireturn, 1) := by decide +kernel
theorem dX4_high_288 : decode cX4_high 288 = .ok (.aload_n 0, 1) := by decide +kernel
theorem dX4_high_289 : decode cX4_high 289 = .ok (.getfield 13, 3) := by decide +kernel
theorem dX4_high_292 : decode cX4_high 292 = .ok (.iload_n 2, 1) := by decide +kernel
theorem dX4_high_293 : decode cX4_high 293 = .ok (.aload_n 0, 1) := by decide +kernel
theorem dX4_high_294 : decode cX4_high 294 = .ok (.iload_n 1, 1) := by decide +kernel
theorem dX4_high_295 : decode cX4_high 295 = .ok (.iload 4, 2) := by decide +kernel
theorem dX4_high_297 : decode cX4_high 297 = .ok (.invokevirtual 237, 3) := by decide +kernel
theorem dX4_high_300 : decode cX4_high 300 = .ok (.lastore, 1) := by decide +kernel
theorem dX4_high_301 : decode cX4_high 301 = .ok (.aload_n 0, 1) := by decide +kernel
theorem dX4_high_302 : decode cX4_high 302 = .ok (.dup, 1) := by decide +kernel
theorem dX4_high_303 : decode cX4_high 303 = .ok (.getfield 162, 3) := by decide +kernel
theorem dX4_high_306 : decode cX4_high 306 = .ok (.ldc2_w 223, 3) := by decide +kernel
theorem dX4_high_309 : decode cX4_high 309 = .ok (.ladd, 1) := by decide +kernel
theorem dX4_high_310 : decode cX4_high 310 = .ok (.putfield 162, 3) := by decide +kernel
theorem dX4_high_313 : decode cX4_high 313 = .ok (.iconst 0, 1) := by decide +kernel
theorem dX4_high_314 : decode cX4_high 314 = .ok (.ireturn, 1) := by decide +kernel
theorem dX4_high_315 : decode cX4_high 315 = .ok (.aload_n 0, 1) := by decide +kernel
theorem dX4_high_316 : decode cX4_high 316 = .ok (.dup, 1) := by decide +kernel
theorem dX4_high_317 : decode cX4_high 317 = .ok (.getfield 162, 3) := by decide +kernel
theorem dX4_high_320 : decode cX4_high 320 = .ok (.ldc2_w 223, 3) := by decide +kernel
theorem dX4_high_323 : decode cX4_high 323 = .ok (.ladd, 1) := by decide +kernel
theorem dX4_high_324 : decode cX4_high 324 = .ok (.putfield 162, 3) := by decide +kernel
theorem dX4_high_327 : decode cX4_high 327 = .ok (.iconst 0, 1) := by decide +kernel
theorem dX4_high_328 : decode cX4_high 328 = .ok (.ireturn, 1) := by decide +kernel
theorem dX4_high_329 : decode cX4_high 329 = .ok (.iload 4, 2) := by decide +kernel
theorem dX4_high_331 : decode cX4_high 331 = .ok (.bipush 7, 2) := by decide +kernel
theorem dX4_high_333 : decode cX4_high 333 = .ok (.if_icmp .le 7, 3) := by decide +kernel
theorem dX4_high_336 : decode cX4_high 336 = .ok (.iconst 2, 1) := by decide +kernel
theorem dX4_high_337 : decode cX4_high 337 = .ok (.goto 15, 3) := by decide +kernel
theorem dX4_high_340 : decode cX4_high 340 = .ok (.aload_n 0, 1) := by decide +kernel
theorem dX4_high_341 : decode cX4_high 341 = .ok (.iload_n 2, 1) := by decide +kernel
theorem dX4_high_342 : decode cX4_high 342 = .ok (.aload_n 0, 1) := by decide +kernel
theorem dX4_high_343 : decode cX4_high 343 = .ok (.getfield 13, 3) := by decide +kernel
theorem dX4_high_346 : decode cX4_high 346 = .ok (.iload 4, 2) := by decide +kernel
theorem dX4_high_348 : decode cX4_high 348 = .ok (.laload, 1) := by decide +kernel
theorem dX4_high_349 : decode cX4_high 349 = .ok (.invokevirtual 269, 3) := by decide +kernel
theorem dX4_high_352 : decode cX4_high 352 = .ok (.ireturn, 1) := by decide +kernel
theorem dX4_high_353 : decode cX4_high 353 = .ok (.iconst 2, 1) := by decide +kernel
theorem dX4_high_354 : decode cX4_high 354 = .ok (.ireturn, 1) := by decide +kernel
set_option maxRecDepth 20000 in
theorem ggX4_set_X4_fail : GoodIn wsX4_set wsX4_fail := goodIn_r _ [7, 1, 8, 9, 10, 11, 12, 13, 14, 15, 16, 17, 18, 19, 20, 21, 22, 23, 24] rfl (by decide +kernel)
set_option maxRecDepth 20000 in
theorem gX4_set_X4_fail : GoodIn wsX4_set (wsV RX4 304 RX4 yX4_fail wsX4_fail) := goodIn_app (goodIn_of _ (by decide +kernel)) ggX4_set_X4_fail
theorem dX4_set_0 : decode cX4_set 0 = .ok (.aload_n 0, 1) := by decide +kernel
theorem dX4_set_1 : decode cX4_set 1 = .ok (.iconst 0, 1) := by decide +kernel
theorem dX4_set_2 : decode cX4_set 2 = .ok (.putfield 153, 3) := by decide +kernel
theorem dX4_set_5 : decode cX4_set 5 = .ok (.iload_n 1, 1) := by decide +kernel
theorem dX4_set_6 : decode cX4_set 6 = .ok (.ifCond .lt 10, 3) := by decide +kernel
theorem dX4_set_9 : decode cX4_set 9 = .ok (.iload_n 1, 1) := by decide +kernel
theorem dX4_set_10 : decode cX4_set 10 = .ok (.sipush 255, 3) := by decide +kernel
theorem dX4_set_13 : decode cX4_set 13 = .ok (.if_icmp .le 10, 3) := by decide +kernel
theorem dX4_set_16 : decode cX4_set 16 = .ok (.aload_n 0, 1) := by decide +kernel
theorem dX4_set_17 : decode cX4_set 17 = .ok (.iconst 1, 1) := by decide +kernel
theorem dX4_set_18 : decode cX4_set 18 = .ok (.invokevirtual 304, 3) := by decide +kernel
theorem dX4_set_21 : decode cX4_set 21 = .ok (.i2l, 1) := by decide +kernel
theorem dX4_set_22 : decode cX4_set 22 = .ok (.lreturn, 1) := by decide +kernel
theorem dX4_set_23 : decode cX4_set 23 = .ok (.aload_n 0, 1) := by decide +kernel
theorem dX4_set_24 : decode cX4_set 24 = .ok (.getfield 7, 3) := by decide +kernel
theorem dX4_set_27 : decode cX4_set 27 = .ok (.iload_n 1, 1) := by decide +kernel
theorem dX4_set_28 : decode cX4_set 28 = .ok (.laload, 1) := by decide +kernel
theorem dX4_set_29 : decode cX4_set 29 = .ok (.lstore 4, 2) := by decide +kernel
theorem dX4_set_31 : decode cX4_set 31 = .ok (.aload_n 0, 1) := by decide +kernel
theorem dX4_set_32 : decode cX4_set 32 = .ok (.getfield 7, 3) := by decide +kernel
theorem dX4_set_35 : decode cX4_set 35 = .ok (.iload_n 1, 1) := by decide +kernel
theorem dX4_set_36 : decode cX4_set 36 = .ok (.lload_n 2, 1) := by decide +kernel
theorem dX4_set_37 : decode cX4_set 37 = .ok (.lastore, 1) := by decide +kernel
theorem dX4_set_38 : decode cX4_set 38 = .ok (.lload 4, 2) := by decide +kernel
theorem dX4_set_40 : decode cX4_set 40 = .ok (.lreturn, 1) := by decide +kernel
set_option maxRecDepth 20000 in
theorem ggX4_get_X4_fail : GoodIn wsX4_get wsX4_fail := goodIn_r _ [8, 1, 9, 10, 11, 12, 13, 14, 15, 16, 17, 18, 19, 20, 21, 22, 23, 24, 25] rfl (by decide +kernel)
set_option maxRecDepth 20000 in
theorem gX4_get_X4_fail : GoodIn wsX4_get (wsV RX4 304 RX4 yX4_fail wsX4_fail) := goodIn_app (goodIn_of _ (by decide +kernel)) ggX4_get_X4_fail
theorem dX4_get_0 : decode cX4_get 0 = .ok (.aload_n 0, 1) := by decide +kernel
theorem dX4_get_1 : decode cX4_get 1 = .ok (.iconst 0, 1) := by decide +kernel
theorem dX4_get_2 : decode cX4_get 2 = .ok (.putfield 153, 3) := by decide +kernel
theorem dX4_get_5 : decode cX4_get 5 = .ok (.iload_n 1, 1) := by decide +kernel
theorem dX4_get_6 : decode cX4_get 6 = .ok (.ifCond .lt 10, 3) := by decide +kernel
theorem dX4_get_9 : decode cX4_get 9 = .ok (.iload_n 1, 1) := by decide +kernel
theorem dX4_get_10 : decode cX4_get 10 = .ok (.sipush 263, 3) := by decide +kernel
theorem dX4_get_13 : decode cX4_get 13 = .ok (.if_icmp .le 10, 3) := by decide +kernel
theorem dX4_get_16 : decode cX4_get 16 = .ok (.aload_n 0, 1) := by decide +kernel
theorem dX4_get_17 : decode cX4_get 17 = .ok (.iconst 1, 1) := by decide +kernel
theorem dX4_get_18 : decode cX4_get 18 = .ok (.invokevirtual 304, 3) := by decide +kernel
theorem dX4_get_21 : decode cX4_get 21 = .ok (.i2l, 1) := by decide +kernel
theorem dX4_get_22 : decode cX4_get 22 = .ok (.lreturn, 1) := by decide +kernel
theorem dX4_get_23 : decode cX4_get 23 = .ok (.iload_n 1, 1) := by decide +kernel
theorem dX4_get_24 : decode cX4_get 24 = .ok (.sipush 256, 3) := by decide +kernel
theorem dX4_get_27 : decode cX4_get 27 = .ok (.if_icmp .ge 12, 3) := by decide +kernel
theorem dX4_get_30 : decode cX4_get 30 = .ok (.aload_n 0, 1) := by decide +kernel
theorem dX4_get_31 : decode cX4_get 31 = .ok (.getfield 7, 3) := by decide +kernel
theorem dX4_get_34 : decode cX4_get 34 = .ok (.iload_n 1, 1) := by decide +kernel
theorem dX4_get_35 : decode cX4_get 35 = .ok (.laload, 1) := by decide +kernel
theorem dX4_get_36 : decode cX4_get 36 = .ok (.goto 13, 3) := by decide +kernel
theorem dX4_get_39 : decode cX4_get 39 = .ok (.aload_n 0, 1) := by decide +kernel
theorem dX4_get_40 : decode cX4_get 40 = .ok (.getfield 13, 3) := by decide +kernel
theorem dX4_get_43 : decode cX4_get 43 = .ok (.iload_n 1, 1) := by decide +kernel
theorem dX4_get_44 : decode cX4_get 44 = .ok (.sipush 256, 3) := by decide +kernel
theorem dX4_get_47 : decode cX4_get 47 = .ok (.isub, 1) := by decide +kernel
theorem dX4_get_48 : decode cX4_get 48 = .ok (.laload, 1) := by decide +kernel
theorem dX4_get_49 : decode cX4_get 49 = .ok (.lreturn, 1) := by decide +kernel
set_option maxRecDepth 20000 in
theorem ggX4_poke_X4_beyond : GoodIn wsX4_poke wsX4_beyond := goodIn_r _ [5, 6] rfl (by decide +kernel)
set_option maxRecDepth 20000 in
theorem gX4_poke_X4_beyond : GoodIn wsX4_poke (va_wsS RX4 166 yX4_beyond wsX4_beyond) := goodIn_app (goodIn_of _ (by decide +kernel)) ggX4_poke_X4_beyond
set_option maxRecDepth 20000 in
theorem ggX4_poke_X4_fail : GoodIn wsX4_poke wsX4_fail := goodIn_r _ [10, 1, 20, 21, 22, 23, 24, 25, 26, 27, 28, 29, 30, 31, 32, 33, 34, 35, 36] rfl (by decide +kernel)
set_option maxRecDepth 20000 in
theorem gX4_poke_X4_fail : GoodIn wsX4_poke (wsV RX4 304 RX4 yX4_fail wsX4_fail) := goodIn_app (goodIn_of _ (by decide +kernel)) ggX4_poke_X4_fail
set_option maxRecDepth 20000 in
theorem ggX4_poke_X4_m : GoodIn wsX4_poke wsX4_m := goodIn_r _ [14, 15, 20, 21, 22, 23, 24, 25, 26, 27, 28, 29, 30, 31, 32, 33, 34, 35, 36] rfl (by decide +kernel)
set_option maxRecDepth 20000 in
theorem gX4_poke_X4_m : GoodIn wsX4_poke (wsV RX4 170 RX4 yX4_m wsX4_m) := goodIn_app (goodIn_of _ (by decide +kernel)) ggX4_poke_X4_m
set_option maxRecDepth 20000 in
theorem ggX4_poke_X4_m_ : GoodIn wsX4_poke wsX4_m_ := goodIn_r _ [19, 15, 20, 21, 22, 23, 24, 25, 26, 27, 28, 29, 30, 31, 32, 33, 34, 35, 36] rfl (by decide +kernel)
set_option maxRecDepth 20000 in
theorem gX4_poke_X4_m_ : GoodIn wsX4_poke (wsV RX4 286 RX4 yX4_m_ wsX4_m_) := goodIn_app (goodIn_of _ (by decide +kernel)) ggX4_poke_X4_m_
theorem dX4_poke_0 : decode cX4_poke 0 = .ok (.aload_n 0, 1) := by decide +kernel
theorem dX4_poke_1 : decode cX4_poke 1 = .ok (.iconst 0, 1) := by decide +kernel
theorem dX4_poke_2 : decode cX4_poke 2 = .ok (.putfield 153, 3) := by decide +kernel
theorem dX4_poke_5 : decode cX4_poke 5 = .ok (.iload_n 1, 1) := by decide +kernel
theorem dX4_poke_6 : decode cX4_poke 6 = .ok (.i2l, 1) := by decide +kernel
theorem dX4_poke_7 : decode cX4_poke 7 = .ok (.invokestatic 166, 3) := by decide +kernel
theorem dX4_poke_10 : decode cX4_poke 10 = .ok (.ifCond .eq 10, 3) := by decide +kernel
theorem dX4_poke_13 : decode cX4_poke 13 = .ok (.aload_n 0, 1) := by decide +kernel
theorem dX4_poke_14 : decode cX4_poke 14 = .ok (.iconst 1, 1) := by decide +kernel
theorem dX4_poke_15 : decode cX4_poke 15 = .ok (.invokevirtual 304, 3) := by decide +kernel
theorem dX4_poke_18 : decode cX4_poke 18 = .ok (.i2l, 1) := by decide +kernel
theorem dX4_poke_19 : decode cX4_poke 19 = .ok (.lreturn, 1) := by decide +kernel
theorem dX4_poke_20 : decode cX4_poke 20 = .ok (.aload_n 0, 1) := by decide +kernel
theorem dX4_poke_21 : decode cX4_poke 21 = .ok (.iload_n 1, 1) := by decide +kernel
theorem dX4_poke_22 : decode cX4_poke 22 = .ok (.i2l, 1) := by decide +kernel
theorem dX4_poke_23 : decode cX4_poke 23 = .ok (.bipush 8, 2) := by decide +kernel
theorem dX4_poke_25 : decode cX4_poke 25 = .ok (.invokevirtual 170, 3) := by decide +kernel
theorem dX4_poke_28 : decode cX4_poke 28 = .ok (.lstore 4, 2) := by decide +kernel
theorem dX4_poke_30 : decode cX4_poke 30 = .ok (.aload_n 0, 1) := by decide +kernel
theorem dX4_poke_31 : decode cX4_poke 31 = .ok (.iload_n 1, 1) := by decide +kernel
theorem dX4_poke_32 : decode cX4_poke 32 = .ok (.i2l, 1) := by decide +kernel
theorem dX4_poke_33 : decode cX4_poke 33 = .ok (.bipush 8, 2) := by decide +kernel
theorem dX4_poke_35 : decode cX4_poke 35 = .ok (.lload_n 2, 1) := by decide +kernel
theorem dX4_poke_36 : decode cX4_poke 36 = .ok (.invokevirtual 286, 3) := by decide +kernel
theorem dX4_poke_39 : decode cX4_poke 39 = .ok (.lload 4, 2) := by decide +kernel
theorem dX4_poke_41 : decode cX4_poke 41 = .ok (.lreturn, 1) := by decide +kernel
set_option maxRecDepth 20000 in
theorem ggX4_peek_X4_beyond : GoodIn wsX4_peek wsX4_beyond := goodIn_r _ [5, 6] rfl (by decide +kernel)
set_option maxRecDepth 20000 in
theorem gX4_peek_X4_beyond : GoodIn wsX4_peek (va_wsS RX4 166 yX4_beyond wsX4_beyond) := goodIn_app (goodIn_of _ (by decide +kernel)) ggX4_peek_X4_beyond
set_option maxRecDepth 20000 in
theorem ggX4_peek_X4_fail : GoodIn wsX4_peek wsX4_fail := goodIn_r _ [10, 1, 16, 17, 18, 19, 20, 21, 22, 23, 24, 25, 26, 27, 28, 29, 30, 31, 32] rfl (by decide +kernel)
set_option maxRecDepth 20000 in
theorem gX4_peek_X4_fail : GoodIn wsX4_peek (wsV RX4 304 RX4 yX4_fail wsX4_fail) := goodIn_app (goodIn_of _ (by decide +kernel)) ggX4_peek_X4_fail
set_option maxRecDepth 20000 in
theorem ggX4_peek_X4_m : GoodIn wsX4_peek wsX4_m := goodIn_r _ [14, 15, 16, 17, 18, 19, 20, 21, 22, 23, 24, 25, 26, 27, 28, 29, 30, 31, 32] rfl (by decide +kernel)
set_option maxRecDepth 20000 in
theorem gX4_peek_X4_m : GoodIn wsX4_peek (wsV RX4 170 RX4 yX4_m wsX4_m) := goodIn_app (goodIn_of _ (by decide +kernel)) ggX4_peek_X4_m
theorem dX4_peek_0 : decode cX4_peek 0 = .ok (.aload_n 0, 1) := by decide +kernel
theorem dX4_peek_1 : decode cX4_peek 1 = .ok (.iconst 0, 1) := by decide +kernel
theorem dX4_peek_2 : decode cX4_peek 2 = .ok (.putfield 153, 3) := by decide +kernel
theorem dX4_peek_5 : decode cX4_peek 5 = .ok (.iload_n 1, 1) := by decide +kernel
theorem dX4_peek_6 : decode cX4_peek 6 = .ok (.i2l, 1) := by decide +kernel
theorem dX4_peek_7 : decode cX4_peek 7 = .ok (.invokestatic 166, 3) := by decide +kernel
theorem dX4_peek_10 : decode cX4_peek 10 = .ok (.ifCond .eq 10, 3) := by decide +kernel
theorem dX4_peek_13 : decode cX4_peek 13 = .ok (.aload_n 0, 1) := by decide +kernel
theorem dX4_peek_14 : decode cX4_peek 14 = .ok (.iconst 1, 1) := by decide +kernel
theorem dX4_peek_15 : decode cX4_peek 15 = .ok (.invokevirtual 304, 3) := by decide +kernel
theorem dX4_peek_18 : decode cX4_peek 18 = .ok (.i2l, 1) := by decide +kernel
theorem dX4_peek_19 : decode cX4_peek 19 = .ok (.lreturn, 1) := by decide +kernel
theorem dX4_peek_20 : decode cX4_peek 20 = .ok (.aload_n 0, 1) := by decide +kernel
theorem dX4_peek_21 : decode cX4_peek 21 = .ok (.iload_n 1, 1) := by decide +kernel
theorem dX4_peek_22 : decode cX4_peek 22 = .ok (.i2l, 1) := by decide +kernel
theorem dX4_peek_23 : decode cX4_peek 23 = .ok (.bipush 8, 2) := by decide +kernel
theorem dX4_peek_25 : decode cX4_peek 25 = .ok (.invokevirtual 170, 3) := by decide +kernel
theorem dX4_peek_28 : decode cX4_peek 28 = .ok (.lreturn, 1) := by decide +kernel
set_option maxRecDepth 20000 in
theorem ggX4_at_X4_beyond : GoodIn wsX4_at wsX4_beyond := goodIn_r _ [6, 7] rfl (by decide +kernel)
set_option maxRecDepth 20000 in
theorem gX4_at_X4_beyond : GoodIn wsX4_at (va_wsS RX4 166 yX4_beyond wsX4_beyond) := goodIn_app (goodIn_of _ (by decide +kernel)) ggX4_at_X4_beyond
set_option maxRecDepth 20000 in
theorem ggX4_at_X4_fail : GoodIn wsX4_at wsX4_fail := goodIn_r _ [11, 1, 12, 13, 14, 15, 16, 17, 18, 19, 20, 21, 22, 23, 24, 25, 26, 27, 28] rfl (by decide +kernel)
set_option maxRecDepth 20000 in
theorem gX4_at_X4_fail : GoodIn wsX4_at (wsV RX4 304 RX4 yX4_fail wsX4_fail) := goodIn_app (goodIn_of _ (by decide +kernel)) ggX4_at_X4_fail
theorem dX4_at_0 : decode cX4_at 0 = .ok (.aload_n 0, 1) := by decide +kernel
theorem dX4_at_1 : decode cX4_at 1 = .ok (.iconst 0, 1) := by decide +kernel
theorem dX4_at_2 : decode cX4_at 2 = .ok (.putfield 153, 3) := by decide +kernel
theorem dX4_at_5 : decode cX4_at 5 = .ok (.iload_n 1, 1) := by decide +kernel
theorem dX4_at_6 : decode cX4_at 6 = .ok (.i2l, 1) := by decide +kernel
theorem dX4_at_7 : decode cX4_at 7 = .ok (.invokestatic 166, 3) := by decide +kernel
theorem dX4_at_10 : decode cX4_at 10 = .ok (.ifCond .eq 9, 3) := by decide +kernel
theorem dX4_at_13 : decode cX4_at 13 = .ok (.aload_n 0, 1) := by decide +kernel
theorem dX4_at_14 : decode cX4_at 14 = .ok (.iconst 1, 1) := by decide +kernel
theorem dX4_at_15 : decode cX4_at 15 = .ok (.invokevirtual 304, 3) := by decide +kernel
theorem dX4_at_18 : decode cX4_at 18 = .ok (.ireturn, 1) := by decide +kernel
theorem dX4_at_19 : decode cX4_at 19 = .ok (.aload_n 0, 1) := by decide +kernel
theorem dX4_at_20 : decode cX4_at 20 = .ok (.iload_n 1, 1) := by decide +kernel
theorem dX4_at_21 : decode cX4_at 21 = .ok (.bipush (-4), 2) := by decide +kernel
theorem dX4_at_23 : decode cX4_at 23 = .ok (.iand, 1) := by decide +kernel
theorem dX4_at_24 : decode cX4_at 24 = .ok (.putfield 308, 3) := by decide +kernel
theorem dX4_at_27 : decode cX4_at 27 = .ok (.aload_n 0, 1) := by decide +kernel
theorem dX4_at_28 : decode cX4_at 28 = .ok (.getfield 308, 3) := by decide +kernel
theorem dX4_at_31 : decode cX4_at 31 = .ok (.ireturn, 1) := by decide +kernel
set_option maxRecDepth 20000 in
theorem ggX4_put_X4_fail : GoodIn wsX4_put wsX4_fail := goodIn_r _ [11, 1, 12, 13, 14, 15, 16, 17, 18, 19, 20, 21, 22, 23, 24, 25, 26, 27, 28] rfl (by decide +kernel)
set_option maxRecDepth 20000 in
theorem gX4_put_X4_fail : GoodIn wsX4_put (wsV RX4 304 RX4 yX4_fail wsX4_fail) := goodIn_app (goodIn_of _ (by decide +kernel)) ggX4_put_X4_fail
theorem dX4_put_0 : decode cX4_put 0 = .ok (.aload_n 0, 1) := by decide +kernel
theorem dX4_put_1 : decode cX4_put 1 = .ok (.iconst 0, 1) := by decide +kernel
theorem dX4_put_2 : decode cX4_put 2 = .ok (.putfield 153, 3) := by decide +kernel
theorem dX4_put_5 : decode cX4_put 5 = .ok (.iconst 0, 1) := by decide +kernel
theorem dX4_put_6 : decode cX4_put 6 = .ok (.istore 5, 2) := by decide +kernel
theorem dX4_put_8 : decode cX4_put 8 = .ok (.iload 5, 2) := by decide +kernel
theorem dX4_put_10 : decode cX4_put 10 = .ok (.aload_n 0, 1) := by decide +kernel
theorem dX4_put_11 : decode cX4_put 11 = .ok (.getfield 149, 3) := by decide +kernel
theorem dX4_put_14 : decode cX4_put 14 = .ok (.if_icmp .ge 20, 3) := by decide +kernel
theorem dX4_put_17 : decode cX4_put 17 = .ok (.aload_n 0, 1) := by decide +kernel
theorem dX4_put_18 : decode cX4_put 18 = .ok (.getfield 26, 3) := by decide +kernel
theorem dX4_put_21 : decode cX4_put 21 = .ok (.iload 5, 2) := by decide +kernel
theorem dX4_put_23 : decode cX4_put 23 = .ok (.iaload, 1) := by decide +kernel
theorem dX4_put_24 : decode cX4_put 24 = .ok (.iload_n 1, 1) := by decide +kernel
theorem dX4_put_25 : decode cX4_put 25 = .ok (.if_icmp .eq 9, 3) := by decide +kernel
theorem dX4_put_28 : decode cX4_put 28 = .ok (.iinc 5 1, 3) := by decide +kernel
theorem dX4_put_31 : decode cX4_put 31 = .ok (.goto (-23), 3) := by decide +kernel
theorem dX4_put_34 : decode cX4_put 34 = .ok (.iload 5, 2) := by decide +kernel
theorem dX4_put_36 : decode cX4_put 36 = .ok (.aload_n 0, 1) := by decide +kernel
theorem dX4_put_37 : decode cX4_put 37 = .ok (.getfield 149, 3) := by decide +kernel
theorem dX4_put_40 : decode cX4_put 40 = .ok (.if_icmp .ne 9, 3) := by decide +kernel
theorem dX4_put_43 : decode cX4_put 43 = .ok (.aload_n 0, 1) := by decide +kernel
theorem dX4_put_44 : decode cX4_put 44 = .ok (.iconst 1, 1) := by decide +kernel
theorem dX4_put_45 : decode cX4_put 45 = .ok (.invokevirtual 304, 3) := by decide +kernel
theorem dX4_put_48 : decode cX4_put 48 = .ok (.ireturn, 1) := by decide +kernel
theorem dX4_put_49 : decode cX4_put 49 = .ok (.aload_n 0, 1) := by decide +kernel
theorem dX4_put_50 : decode cX4_put 50 = .ok (.getfield 308, 3) := by decide +kernel
theorem dX4_put_53 : decode cX4_put 53 = .ok (.sipush 16383, 3) := by decide +kernel
theorem dX4_put_56 : decode cX4_put 56 = .ok (.if_icmp .le 9, 3) := by decide +kernel
theorem dX4_put_59 : decode cX4_put 59 = .ok (.aload_n 0, 1) := by decide +kernel
theorem dX4_put_60 : decode cX4_put 60 = .ok (.iconst 2, 1) := by decide +kernel
theorem dX4_put_61 : decode cX4_put 61 = .ok (.invokevirtual 304, 3) := by decide +kernel
theorem dX4_put_64 : decode cX4_put 64 = .ok (.ireturn, 1) := by decide +kernel
theorem dX4_put_65 : decode cX4_put 65 = .ok (.aload_n 0, 1) := by decide +kernel
theorem dX4_put_66 : decode cX4_put 66 = .ok (.getfield 19, 3) := by decide +kernel
theorem dX4_put_69 : decode cX4_put 69 = .ok (.aload_n 0, 1) := by decide +kernel
theorem dX4_put_70 : decode cX4_put 70 = .ok (.getfield 308, 3) := by decide +kernel
theorem dX4_put_73 : decode cX4_put 73 = .ok (.aload_n 0, 1) := by decide +kernel
theorem dX4_put_74 : decode cX4_put 74 = .ok (.getfield 30, 3) := by decide +kernel
theorem dX4_put_77 : decode cX4_put 77 = .ok (.iload 5, 2) := by decide +kernel
theorem dX4_put_79 : decode cX4_put 79 = .ok (.iaload, 1) := by decide +kernel
theorem dX4_put_80 : decode cX4_put 80 = .ok (.i2b, 1) := by decide +kernel
theorem dX4_put_81 : decode cX4_put 81 = .ok (.bastore, 1) := by decide +kernel
theorem dX4_put_82 : decode cX4_put 82 = .ok (.aload_n 0, 1) := by decide +kernel
theorem dX4_put_83 : decode cX4_put 83 = .ok (.getfield 19, 3) := by decide +kernel
theorem dX4_put_86 : decode cX4_put 86 = .ok (.aload_n 0, 1) := by decide +kernel
theorem dX4_put_87 : decode cX4_put 87 = .ok (.getfield 308, 3) := by decide +kernel
theorem dX4_put_90 : decode cX4_put 90 = .ok (.iconst 1, 1) := by decide +kernel
theorem dX4_put_91 : decode cX4_put 91 = .ok (.iadd, 1) := by decide +kernel
theorem dX4_put_92 : decode cX4_put 92 = .ok (.iload_n 2, 1) := by decide +kernel
theorem dX4_put_93 : decode cX4_put 93 = .ok (.i2b, 1) := by decide +kernel
theorem dX4_put_94 : decode cX4_put 94 = .ok (.bastore, 1) := by decide +kernel
theorem dX4_put_95 : decode cX4_put 95 = .ok (.aload_n 0, 1) := by decide +kernel
theorem dX4_put_96 : decode cX4_put 96 = .ok (.getfield 19, 3) := by decide +kernel
theorem dX4_put_99 : decode cX4_put 99 = .ok (.aload_n 0, 1) := by decide +kernel
theorem dX4_put_100 : decode cX4_put 100 = .ok (.getfield 308, 3) := by decide +kernel
theorem dX4_put_103 : decode cX4_put 103 = .ok (.iconst 2, 1) := by decide +kernel
theorem dX4_put_104 : decode cX4_put 104 = .ok (.iadd, 1) := by decide +kernel
theorem dX4_put_105 : decode cX4_put 105 = .ok (.iload_n 3, 1) := by decide +kernel
theorem dX4_put_106 : decode cX4_put 106 = .ok (.i2b, 1) := by decide +kernel
theorem dX4_put_107 : decode cX4_put 107 = .ok (.bastore, 1) := by decide +kernel
theorem dX4_put_108 : decode cX4_put 108 = .ok (.aload_n 0, 1) := by decide +kernel
theorem dX4_put_109 : decode cX4_put 109 = .ok (.getfield 19, 3) := by decide +kernel
theorem dX4_put_112 : decode cX4_put 112 = .ok (.aload_n 0, 1) := by decide +kernel
theorem dX4_put_113 : decode cX4_put 113 = .ok (.getfield 308, 3) := by decide +kernel
theorem dX4_put_116 : decode cX4_put 116 = .ok (.iconst 3, 1) := by decide +kernel
theorem dX4_put_117 : decode cX4_put 117 = .ok (.iadd, 1) := by decide +kernel
theorem dX4_put_118 : decode cX4_put 118 = .ok (.iload 4, 2) := by decide +kernel
theorem dX4_put_120 : decode cX4_put 120 = .ok (.i2b, 1) := by decide +kernel
theorem dX4_put_121 : decode cX4_put 121 = .ok (.bastore, 1) := by decide +kernel
theorem dX4_put_122 : decode cX4_put 122 = .ok (.aload_n 0, 1) := by decide +kernel
theorem dX4_put_123 : decode cX4_put 123 = .ok (.dup, 1) := by decide +kernel
theorem dX4_put_124 : decode cX4_put 124 = .ok (.getfield 308, 3) := by decide +kernel
theorem dX4_put_127 : decode cX4_put 127 = .ok (.iconst 4, 1) := by decide +kernel
theorem dX4_put_128 : decode cX4_put 128 = .ok (.iadd, 1) := by decide +kernel
theorem dX4_put_129 : decode cX4_put 129 = .ok (.putfield 308, 3) := by decide +kernel
theorem dX4_put_132 : decode cX4_put 132 = .ok (.aload_n 0, 1) := by decide +kernel
theorem dX4_put_133 : decode cX4_put 133 = .ok (.getfield 30, 3) := by decide +kernel
theorem dX4_put_136 : decode cX4_put 136 = .ok (.iload 5, 2) := by decide +kernel
theorem dX4_put_138 : decode cX4_put 138 = .ok (.iaload, 1) := by decide +kernel
theorem dX4_put_139 : decode cX4_put 139 = .ok (.ireturn, 1) := by decide +kernel
set_option maxRecDepth 20000 in
theorem ggX4_go_X4_fail : GoodIn wsX4_go wsX4_fail := goodIn_r _ [7, 1, 128, 129, 130, 131, 132, 133, 134, 135, 136, 137, 138, 139, 140, 141, 142, 143, 144] rfl (by decide +kernel)
set_option maxRecDepth 20000 in
theorem gX4_go_X4_fail : GoodIn wsX4_go (wsV RX4 304 RX4 yX4_fail wsX4_fail) := goodIn_app (goodIn_of _ (by decide +kernel)) ggX4_go_X4_fail
set_option maxRecDepth 20000 in
theorem ghX4_go_X4_step_h : GoodIn wsX4_go ([.code yX4_step cX4_step 7 (some .int)] : List Cond) := goodIn_r _ [11] rfl (by decide +kernel)
set_option maxRecDepth 20000 in
theorem ghX4_go_X4_step_wsX4_step_r1 : GoodIn wsX4_go wsX4_step_r1 := goodIn_r _ [2, 12, 13, 14, 15, 16, 17, 18, 19, 20, 21, 22, 23, 24, 25, 6, 26, 27, 28, 29, 30, 31, 32, 33] rfl (by decide +kernel)
set_option maxRecDepth 20000 in
theorem ghX4_go_X4_step_wsX4_step_r2 : GoodIn wsX4_go wsX4_step_r2 := goodIn_r _ [34, 35, 36, 37, 38, 39, 40, 41, 42, 43, 44, 45, 46, 47, 48, 49, 50, 51, 52, 53, 54, 55, 56, 57] rfl (by decide +kernel)
set_option maxRecDepth 20000 in
theorem ghX4_go_X4_step_wsX4_step_r3 : GoodIn wsX4_go wsX4_step_r3 := goodIn_r _ [58, 59, 60, 61, 62, 63, 64, 65, 66, 67, 68, 69, 70, 71, 72, 73, 74, 75, 76, 77, 78, 79, 80, 81] rfl (by decide +kernel)
set_option maxRecDepth 20000 in
theorem ghX4_go_X4_step_wsX4_step_r4 : GoodIn wsX4_go wsX4_step_r4 := goodIn_r _ [82, 83, 84, 85, 86, 87, 88, 89, 90, 91, 92, 93, 94, 95, 96, 97, 98, 99, 100, 101, 102, 103, 104, 105] rfl (by decide +kernel)
set_option maxRecDepth 20000 in
theorem ghX4_go_X4_step_wsX4_step_r5 : GoodIn wsX4_go wsX4_step_r5 := goodIn_r _ [106, 107, 108, 109, 110, 111, 112, 113, 114, 115, 116, 117, 118, 119, 120, 121, 122, 123, 124, 125, 126, 127] rfl (by decide +kernel)
set_option maxRecDepth 20000 in
theorem ghX4_go_X4_step_wsX40 : GoodIn wsX4_go wsX40 := goodIn_r _ [128, 129, 130, 131, 132, 133, 134, 135, 136, 137, 138, 139, 140, 141, 142, 143, 144] rfl (by decide +kernel)
theorem ggX4_go_X4_step : GoodIn wsX4_go wsX4_step := (goodIn_app (a := [.code yX4_step cX4_step 7 (some .int)]) ghX4_go_X4_step_h (goodIn_app (goodIn_app ghX4_go_X4_step_wsX4_step_r1 (goodIn_app ghX4_go_X4_step_wsX4_step_r2 (goodIn_app ghX4_go_X4_step_wsX4_step_r3 (goodIn_app ghX4_go_X4_step_wsX4_step_r4 ghX4_go_X4_step_wsX4_step_r5)))) ghX4_go_X4_step_wsX40))
set_option maxRecDepth 20000 in
theorem gX4_go_X4_step : GoodIn wsX4_go (wsV RX4 311 RX4 yX4_step wsX4_step) := goodIn_app (goodIn_of _ (by decide +kernel)) ggX4_go_X4_step
theorem dX4_go_0 : decode cX4_go 0 = .ok (.aload_n 0, 1) := by decide +kernel
theorem dX4_go_1 : decode cX4_go 1 = .ok (.iconst 0, 1) := by decide +kernel
theorem dX4_go_2 : decode cX4_go 2 = .ok (.putfield 153, 3) := by decide +kernel
theorem dX4_go_5 : decode cX4_go 5 = .ok (.iload_n 2, 1) := by decide +kernel
theorem dX4_go_6 : decode cX4_go 6 = .ok (.iconst 1, 1) := by decide +kernel
theorem dX4_go_7 : decode cX4_go 7 = .ok (.if_icmp .lt 10, 3) := by decide +kernel
theorem dX4_go_10 : decode cX4_go 10 = .ok (.iload_n 2, 1) := by decide +kernel
theorem dX4_go_11 : decode cX4_go 11 = .ok (.sipush 1000, 3) := by decide +kernel
theorem dX4_go_14 : decode cX4_go 14 = .ok (.if_icmp .le 9, 3) := by decide +kernel
theorem dX4_go_17 : decode cX4_go 17 = .ok (.aload_n 0, 1) := by decide +kernel
theorem dX4_go_18 : decode cX4_go 18 = .ok (.iconst 1, 1) := by decide +kernel
theorem dX4_go_19 : decode cX4_go 19 = .ok (.invokevirtual 304, 3) := by decide +kernel
theorem dX4_go_22 : decode cX4_go 22 = .ok (.ireturn, 1) := by decide +kernel
theorem dX4_go_23 : decode cX4_go 23 = .ok (.iload_n 1, 1) := by decide +kernel
theorem dX4_go_24 : decode cX4_go 24 = .ok (.ifCond .lt 12, 3) := by decide +kernel
theorem dX4_go_27 : decode cX4_go 27 = .ok (.aload_n 0, 1) := by decide +kernel
theorem dX4_go_28 : decode cX4_go 28 = .ok (.iload_n 1, 1) := by decide +kernel
theorem dX4_go_29 : decode cX4_go 29 = .ok (.bipush (-4), 2) := by decide +kernel
theorem dX4_go_31 : decode cX4_go 31 = .ok (.iand, 1) := by decide +kernel
theorem dX4_go_32 : decode cX4_go 32 = .ok (.i2l, 1) := by decide +kernel
theorem dX4_go_33 : decode cX4_go 33 = .ok (.putfield 162, 3) := by decide +kernel
theorem dX4_go_36 : decode cX4_go 36 = .ok (.iconst 0, 1) := by decide +kernel
theorem dX4_go_37 : decode cX4_go 37 = .ok (.istore_n 3, 1) := by decide +kernel
theorem dX4_go_38 : decode cX4_go 38 = .ok (.iconst 0, 1) := by decide +kernel
theorem dX4_go_39 : decode cX4_go 39 = .ok (.istore 4, 2) := by decide +kernel
theorem dX4_go_41 : decode cX4_go 41 = .ok (.iload 4, 2) := by decide +kernel
theorem dX4_go_43 : decode cX4_go 43 = .ok (.iload_n 2, 1) := by decide +kernel
theorem dX4_go_44 : decode cX4_go 44 = .ok (.if_icmp .ge 18, 3) := by decide +kernel
theorem dX4_go_47 : decode cX4_go 47 = .ok (.iload_n 3, 1) := by decide +kernel
theorem dX4_go_48 : decode cX4_go 48 = .ok (.ifCond .ne 14, 3) := by decide +kernel
theorem dX4_go_51 : decode cX4_go 51 = .ok (.aload_n 0, 1) := by decide +kernel
theorem dX4_go_52 : decode cX4_go 52 = .ok (.invokevirtual 311, 3) := by decide +kernel
theorem dX4_go_55 : decode cX4_go 55 = .ok (.istore_n 3, 1) := by decide +kernel
theorem dX4_go_56 : decode cX4_go 56 = .ok (.iinc 4 1, 3) := by decide +kernel
theorem dX4_go_59 : decode cX4_go 59 = .ok (.goto (-18), 3) := by decide +kernel
theorem dX4_go_62 : decode cX4_go 62 = .ok (.iload_n 3, 1) := by decide +kernel
theorem dX4_go_63 : decode cX4_go 63 = .ok (.ireturn, 1) := by decide +kernel
theorem dX4_mark_0 : decode cX4_mark 0 = .ok (.aload_n 0, 1) := by decide +kernel
theorem dX4_mark_1 : decode cX4_mark 1 = .ok (.iconst 0, 1) := by decide +kernel
theorem dX4_mark_2 : decode cX4_mark 2 = .ok (.putfield 153, 3) := by decide +kernel
theorem dX4_mark_5 : decode cX4_mark 5 = .ok (.lconst 0, 1) := by decide +kernel
theorem dX4_mark_6 : decode cX4_mark 6 = .ok (.lstore_n 1, 1) := by decide +kernel
theorem dX4_mark_7 : decode cX4_mark 7 = .ok (.iconst 0, 1) := by decide +kernel
theorem dX4_mark_8 : decode cX4_mark 8 = .ok (.istore_n 3, 1) := by decide +kernel
theorem dX4_mark_9 : decode cX4_mark 9 = .ok (.iload_n 3, 1) := by decide +kernel
theorem dX4_mark_10 : decode cX4_mark 10 = .ok (.sipush 256, 3) := by decide +kernel
theorem dX4_mark_13 : decode cX4_mark 13 = .ok (.if_icmp .ge 31, 3) := by decide +kernel
theorem dX4_mark_16 : decode cX4_mark 16 = .ok (.lload_n 1, 1) := by decide +kernel
theorem dX4_mark_17 : decode cX4_mark 17 = .ok (.aload_n 0, 1) := by decide +kernel
theorem dX4_mark_18 : decode cX4_mark 18 = .ok (.getfield 7, 3) := by decide +kernel
theorem dX4_mark_21 : decode cX4_mark 21 = .ok (.iload_n 3, 1) := by decide +kernel
theorem dX4_mark_22 : decode cX4_mark 22 = .ok (.laload, 1) := by decide +kernel
theorem dX4_mark_23 : decode cX4_mark 23 = .ok (.ldc2_w 255, 3) := by decide +kernel
theorem dX4_mark_26 : decode cX4_mark 26 = .ok (.iload_n 3, 1) := by decide +kernel
theorem dX4_mark_27 : decode cX4_mark 27 = .ok (.i2l, 1) := by decide +kernel
theorem dX4_mark_28 : decode cX4_mark 28 = .ok (.lmul, 1) := by decide +kernel
theorem dX4_mark_29 : decode cX4_mark 29 = .ok (.lconst 1, 1) := by decide +kernel
theorem dX4_mark_30 : decode cX4_mark 30 = .ok (.ladd, 1) := by decide +kernel
theorem dX4_mark_31 : decode cX4_mark 31 = .ok (.lmul, 1) := by decide +kernel
theorem dX4_mark_32 : decode cX4_mark 32 = .ok (.ldc2_w 314, 3) := by decide +kernel
theorem dX4_mark_35 : decode cX4_mark 35 = .ok (.lmul, 1) := by decide +kernel
end
section
theorem dX4_mark_36 : decode cX4_mark 36 = .ok (.ladd, 1) := by decide +kernel
theorem dX4_mark_37 : decode cX4_mark 37 = .ok (.lstore_n 1, 1) := by decide +kernel
theorem dX4_mark_38 : decode cX4_mark 38 = .ok (.iinc 3 1, 3) := by decide +kernel
theorem dX4_mark_41 : decode cX4_mark 41 = .ok (.goto (-32), 3) := by decide +kernel
theorem dX4_mark_44 : decode cX4_mark 44 = .ok (.lload_n 1, 1) := by decide +kernel
theorem dX4_mark_45 : decode cX4_mark 45 = .ok (.lreturn, 1) := by decide +kernel
set_option maxRecDepth 20000 in
theorem ggX4_tally_X4_fail : GoodIn wsX4_tally wsX4_fail := goodIn_r _ [7, 1, 8, 9, 10, 11, 12, 13, 14, 15, 16, 17, 18, 19, 20, 21, 22, 23, 24] rfl (by decide +kernel)
set_option maxRecDepth 20000 in
theorem gX4_tally_X4_fail : GoodIn wsX4_tally (wsV RX4 304 RX4 yX4_fail wsX4_fail) := goodIn_app (goodIn_of _ (by decide +kernel)) ggX4_tally_X4_fail
theorem dX4_tally_0 : decode cX4_tally 0 = .ok (.aload_n 0, 1) := by decide +kernel
theorem dX4_tally_1 : decode cX4_tally 1 = .ok (.iconst 0, 1) := by decide +kernel
theorem dX4_tally_2 : decode cX4_tally 2 = .ok (.putfield 153, 3) := by decide +kernel
theorem dX4_tally_5 : decode cX4_tally 5 = .ok (.iload_n 1, 1) := by decide +kernel
theorem dX4_tally_6 : decode cX4_tally 6 = .ok (.ifCond .lt 10, 3) := by decide +kernel
theorem dX4_tally_9 : decode cX4_tally 9 = .ok (.iload_n 1, 1) := by decide +kernel
theorem dX4_tally_10 : decode cX4_tally 10 = .ok (.sipush 255, 3) := by decide +kernel
theorem dX4_tally_13 : decode cX4_tally 13 = .ok (.if_icmp .le 10, 3) := by decide +kernel
theorem dX4_tally_16 : decode cX4_tally 16 = .ok (.aload_n 0, 1) := by decide +kernel
theorem dX4_tally_17 : decode cX4_tally 17 = .ok (.iconst 1, 1) := by decide +kernel
theorem dX4_tally_18 : decode cX4_tally 18 = .ok (.invokevirtual 304, 3) := by decide +kernel
theorem dX4_tally_21 : decode cX4_tally 21 = .ok (.i2l, 1) := by decide +kernel
theorem dX4_tally_22 : decode cX4_tally 22 = .ok (.lreturn, 1) := by decide +kernel
theorem dX4_tally_23 : decode cX4_tally 23 = .ok (.aload_n 0, 1) := by decide +kernel
theorem dX4_tally_24 : decode cX4_tally 24 = .ok (.getfield 16, 3) := by decide +kernel
theorem dX4_tally_27 : decode cX4_tally 27 = .ok (.iload_n 1, 1) := by decide +kernel
theorem dX4_tally_28 : decode cX4_tally 28 = .ok (.laload, 1) := by decide +kernel
theorem dX4_tally_29 : decode cX4_tally 29 = .ok (.lreturn, 1) := by decide +kernel
set_option maxRecDepth 20000 in
theorem ggX4_spend_X4_fail : GoodIn wsX4_spend wsX4_fail := goodIn_r _ [7, 1, 8, 9, 10, 11, 12, 13, 14, 15, 16, 17, 18, 19, 20, 21, 22, 23, 24] rfl (by decide +kernel)
set_option maxRecDepth 20000 in
theorem gX4_spend_X4_fail : GoodIn wsX4_spend (wsV RX4 304 RX4 yX4_fail wsX4_fail) := goodIn_app (goodIn_of _ (by decide +kernel)) ggX4_spend_X4_fail
theorem dX4_spend_0 : decode cX4_spend 0 = .ok (.aload_n 0, 1) := by decide +kernel
theorem dX4_spend_1 : decode cX4_spend 1 = .ok (.iconst 0, 1) := by decide +kernel
theorem dX4_spend_2 : decode cX4_spend 2 = .ok (.putfield 153, 3) := by decide +kernel
theorem dX4_spend_5 : decode cX4_spend 5 = .ok (.iload_n 1, 1) := by decide +kernel
theorem dX4_spend_6 : decode cX4_spend 6 = .ok (.sipush (-1000), 3) := by decide +kernel
theorem dX4_spend_9 : decode cX4_spend 9 = .ok (.if_icmp .lt 10, 3) := by decide +kernel
theorem dX4_spend_12 : decode cX4_spend 12 = .ok (.iload_n 1, 1) := by decide +kernel
theorem dX4_spend_13 : decode cX4_spend 13 = .ok (.sipush 1000, 3) := by decide +kernel
theorem dX4_spend_16 : decode cX4_spend 16 = .ok (.if_icmp .le 10, 3) := by decide +kernel
theorem dX4_spend_19 : decode cX4_spend 19 = .ok (.aload_n 0, 1) := by decide +kernel
theorem dX4_spend_20 : decode cX4_spend 20 = .ok (.iconst 1, 1) := by decide +kernel
theorem dX4_spend_21 : decode cX4_spend 21 = .ok (.invokevirtual 304, 3) := by decide +kernel
theorem dX4_spend_24 : decode cX4_spend 24 = .ok (.i2l, 1) := by decide +kernel
theorem dX4_spend_25 : decode cX4_spend 25 = .ok (.lreturn, 1) := by decide +kernel
theorem dX4_spend_26 : decode cX4_spend 26 = .ok (.aload_n 0, 1) := by decide +kernel
theorem dX4_spend_27 : decode cX4_spend 27 = .ok (.dup, 1) := by decide +kernel
theorem dX4_spend_28 : decode cX4_spend 28 = .ok (.getfield 204, 3) := by decide +kernel
theorem dX4_spend_31 : decode cX4_spend 31 = .ok (.iload_n 1, 1) := by decide +kernel
theorem dX4_spend_32 : decode cX4_spend 32 = .ok (.i2l, 1) := by decide +kernel
theorem dX4_spend_33 : decode cX4_spend 33 = .ok (.ladd, 1) := by decide +kernel
theorem dX4_spend_34 : decode cX4_spend 34 = .ok (.putfield 204, 3) := by decide +kernel
theorem dX4_spend_37 : decode cX4_spend 37 = .ok (.aload_n 0, 1) := by decide +kernel
theorem dX4_spend_38 : decode cX4_spend 38 = .ok (.getfield 204, 3) := by decide +kernel
theorem dX4_spend_41 : decode cX4_spend 41 = .ok (.lreturn, 1) := by decide +kernel
set_option maxRecDepth 20000 in
theorem ggX4_output_X4_fail : GoodIn wsX4_output wsX4_fail := goodIn_r _ [8, 1, 9, 10, 11, 12, 13, 14, 15, 16, 17, 18, 19, 20, 21, 22, 23, 24, 25] rfl (by decide +kernel)
set_option maxRecDepth 20000 in
theorem gX4_output_X4_fail : GoodIn wsX4_output (wsV RX4 304 RX4 yX4_fail wsX4_fail) := goodIn_app (goodIn_of _ (by decide +kernel)) ggX4_output_X4_fail
theorem dX4_output_0 : decode cX4_output 0 = .ok (.aload_n 0, 1) := by decide +kernel
theorem dX4_output_1 : decode cX4_output 1 = .ok (.iconst 0, 1) := by decide +kernel
theorem dX4_output_2 : decode cX4_output 2 = .ok (.putfield 153, 3) := by decide +kernel
theorem dX4_output_5 : decode cX4_output 5 = .ok (.iload_n 1, 1) := by decide +kernel
theorem dX4_output_6 : decode cX4_output 6 = .ok (.ifCond .lt 11, 3) := by decide +kernel
theorem dX4_output_9 : decode cX4_output 9 = .ok (.iload_n 1, 1) := by decide +kernel
theorem dX4_output_10 : decode cX4_output 10 = .ok (.aload_n 0, 1) := by decide +kernel
theorem dX4_output_11 : decode cX4_output 11 = .ok (.getfield 277, 3) := by decide +kernel
theorem dX4_output_14 : decode cX4_output 14 = .ok (.if_icmp .lt 9, 3) := by decide +kernel
theorem dX4_output_17 : decode cX4_output 17 = .ok (.aload_n 0, 1) := by decide +kernel
theorem dX4_output_18 : decode cX4_output 18 = .ok (.iconst 1, 1) := by decide +kernel
theorem dX4_output_19 : decode cX4_output 19 = .ok (.invokevirtual 304, 3) := by decide +kernel
theorem dX4_output_22 : decode cX4_output 22 = .ok (.ireturn, 1) := by decide +kernel
theorem dX4_output_23 : decode cX4_output 23 = .ok (.aload_n 0, 1) := by decide +kernel
theorem dX4_output_24 : decode cX4_output 24 = .ok (.getfield 23, 3) := by decide +kernel
theorem dX4_output_27 : decode cX4_output 27 = .ok (.iload_n 1, 1) := by decide +kernel
theorem dX4_output_28 : decode cX4_output 28 = .ok (.baload, 1) := by decide +kernel
theorem dX4_output_29 : decode cX4_output 29 = .ok (.sipush 255, 3) := by decide +kernel
theorem dX4_output_32 : decode cX4_output 32 = .ok (.iand, 1) := by decide +kernel
theorem dX4_output_33 : decode cX4_output 33 = .ok (.ireturn, 1) := by decide +kernel
theorem dX4_count_0 : decode cX4_count 0 = .ok (.aload_n 0, 1) := by decide +kernel
theorem dX4_count_1 : decode cX4_count 1 = .ok (.iconst 0, 1) := by decide +kernel
theorem dX4_count_2 : decode cX4_count 2 = .ok (.putfield 153, 3) := by decide +kernel
theorem dX4_count_5 : decode cX4_count 5 = .ok (.iload_n 1, 1) := by decide +kernel
theorem dX4_count_6 : decode cX4_count 6 = .ok (.tableswitch 79 0 6 #[42, 47, 52, 57, 63, 69, 74], 42) := by decide +kernel
theorem dX4_count_48 : decode cX4_count 48 = .ok (.aload_n 0, 1) := by decide +kernel
theorem dX4_count_49 : decode cX4_count 49 = .ok (.getfield 162, 3) := by decide +kernel
theorem dX4_count_52 : decode cX4_count 52 = .ok (.lreturn, 1) := by decide +kernel
theorem dX4_count_53 : decode cX4_count 53 = .ok (.aload_n 0, 1) := by decide +kernel
theorem dX4_count_54 : decode cX4_count 54 = .ok (.getfield 204, 3) := by decide +kernel
theorem dX4_count_57 : decode cX4_count 57 = .ok (.lreturn, 1) := by decide +kernel
theorem dX4_count_58 : decode cX4_count 58 = .ok (.aload_n 0, 1) := by decide +kernel
theorem dX4_count_59 : decode cX4_count 59 = .ok (.getfield 280, 3) := by decide +kernel
theorem dX4_count_62 : decode cX4_count 62 = .ok (.lreturn, 1) := by decide +kernel
theorem dX4_count_63 : decode cX4_count 63 = .ok (.aload_n 0, 1) := by decide +kernel
theorem dX4_count_64 : decode cX4_count 64 = .ok (.getfield 277, 3) := by decide +kernel
theorem dX4_count_67 : decode cX4_count 67 = .ok (.i2l, 1) := by decide +kernel
theorem dX4_count_68 : decode cX4_count 68 = .ok (.lreturn, 1) := by decide +kernel
theorem dX4_count_69 : decode cX4_count 69 = .ok (.aload_n 0, 1) := by decide +kernel
theorem dX4_count_70 : decode cX4_count 70 = .ok (.getfield 308, 3) := by decide +kernel
theorem dX4_count_73 : decode cX4_count 73 = .ok (.i2l, 1) := by decide +kernel
theorem dX4_count_74 : decode cX4_count 74 = .ok (.lreturn, 1) := by decide +kernel
theorem dX4_count_75 : decode cX4_count 75 = .ok (.aload_n 0, 1) := by decide +kernel
theorem dX4_count_76 : decode cX4_count 76 = .ok (.getfield 176, 3) := by decide +kernel
theorem dX4_count_79 : decode cX4_count 79 = .ok (.lreturn, 1) := by decide +kernel
theorem dX4_count_80 : decode cX4_count 80 = .ok (.aload_n 0, 1) := by decide +kernel
theorem dX4_count_81 : decode cX4_count 81 = .ok (.getfield 201, 3) := by decide +kernel
theorem dX4_count_84 : decode cX4_count 84 = .ok (.lreturn, 1) := by decide +kernel
theorem dX4_count_85 : decode cX4_count 85 = .ok (.ldc2_w 261, 3) := by decide +kernel
theorem dX4_count_88 : decode cX4_count 88 = .ok (.lreturn, 1) := by decide +kernel
theorem dJ13_bitCount_95d88_0 : decode cJ13_bitCount_95d88 0 = .ok (.lload_n 0, 1) := by decide +kernel
theorem dJ13_bitCount_95d88_1 : decode cJ13_bitCount_95d88 1 = .ok (.lload_n 0, 1) := by decide +kernel
theorem dJ13_bitCount_95d88_2 : decode cJ13_bitCount_95d88 2 = .ok (.iconst 1, 1) := by decide +kernel
theorem dJ13_bitCount_95d88_3 : decode cJ13_bitCount_95d88 3 = .ok (.lushr, 1) := by decide +kernel
theorem dJ13_bitCount_95d88_4 : decode cJ13_bitCount_95d88 4 = .ok (.ldc2_w 314, 3) := by decide +kernel
theorem dJ13_bitCount_95d88_7 : decode cJ13_bitCount_95d88 7 = .ok (.land, 1) := by decide +kernel
theorem dJ13_bitCount_95d88_8 : decode cJ13_bitCount_95d88 8 = .ok (.lsub, 1) := by decide +kernel
theorem dJ13_bitCount_95d88_9 : decode cJ13_bitCount_95d88 9 = .ok (.lstore_n 0, 1) := by decide +kernel
theorem dJ13_bitCount_95d88_10 : decode cJ13_bitCount_95d88 10 = .ok (.lload_n 0, 1) := by decide +kernel
theorem dJ13_bitCount_95d88_11 : decode cJ13_bitCount_95d88 11 = .ok (.ldc2_w 316, 3) := by decide +kernel
theorem dJ13_bitCount_95d88_14 : decode cJ13_bitCount_95d88 14 = .ok (.land, 1) := by decide +kernel
theorem dJ13_bitCount_95d88_15 : decode cJ13_bitCount_95d88 15 = .ok (.lload_n 0, 1) := by decide +kernel
theorem dJ13_bitCount_95d88_16 : decode cJ13_bitCount_95d88 16 = .ok (.iconst 2, 1) := by decide +kernel
theorem dJ13_bitCount_95d88_17 : decode cJ13_bitCount_95d88 17 = .ok (.lushr, 1) := by decide +kernel
theorem dJ13_bitCount_95d88_18 : decode cJ13_bitCount_95d88 18 = .ok (.ldc2_w 316, 3) := by decide +kernel
theorem dJ13_bitCount_95d88_21 : decode cJ13_bitCount_95d88 21 = .ok (.land, 1) := by decide +kernel
theorem dJ13_bitCount_95d88_22 : decode cJ13_bitCount_95d88 22 = .ok (.ladd, 1) := by decide +kernel
theorem dJ13_bitCount_95d88_23 : decode cJ13_bitCount_95d88 23 = .ok (.lstore_n 0, 1) := by decide +kernel
theorem dJ13_bitCount_95d88_24 : decode cJ13_bitCount_95d88 24 = .ok (.lload_n 0, 1) := by decide +kernel
theorem dJ13_bitCount_95d88_25 : decode cJ13_bitCount_95d88 25 = .ok (.lload_n 0, 1) := by decide +kernel
theorem dJ13_bitCount_95d88_26 : decode cJ13_bitCount_95d88 26 = .ok (.iconst 4, 1) := by decide +kernel
theorem dJ13_bitCount_95d88_27 : decode cJ13_bitCount_95d88 27 = .ok (.lushr, 1) := by decide +kernel
theorem dJ13_bitCount_95d88_28 : decode cJ13_bitCount_95d88 28 = .ok (.ladd, 1) := by decide +kernel
theorem dJ13_bitCount_95d88_29 : decode cJ13_bitCount_95d88 29 = .ok (.ldc2_w 318, 3) := by decide +kernel
theorem dJ13_bitCount_95d88_32 : decode cJ13_bitCount_95d88 32 = .ok (.land, 1) := by decide +kernel
theorem dJ13_bitCount_95d88_33 : decode cJ13_bitCount_95d88 33 = .ok (.lstore_n 0, 1) := by decide +kernel
theorem dJ13_bitCount_95d88_34 : decode cJ13_bitCount_95d88 34 = .ok (.lload_n 0, 1) := by decide +kernel
theorem dJ13_bitCount_95d88_35 : decode cJ13_bitCount_95d88 35 = .ok (.lload_n 0, 1) := by decide +kernel
theorem dJ13_bitCount_95d88_36 : decode cJ13_bitCount_95d88 36 = .ok (.bipush 8, 2) := by decide +kernel
theorem dJ13_bitCount_95d88_38 : decode cJ13_bitCount_95d88 38 = .ok (.lushr, 1) := by decide +kernel
theorem dJ13_bitCount_95d88_39 : decode cJ13_bitCount_95d88 39 = .ok (.ladd, 1) := by decide +kernel
theorem dJ13_bitCount_95d88_40 : decode cJ13_bitCount_95d88 40 = .ok (.lstore_n 0, 1) := by decide +kernel
theorem dJ13_bitCount_95d88_41 : decode cJ13_bitCount_95d88 41 = .ok (.lload_n 0, 1) := by decide +kernel
theorem dJ13_bitCount_95d88_42 : decode cJ13_bitCount_95d88 42 = .ok (.lload_n 0, 1) := by decide +kernel
theorem dJ13_bitCount_95d88_43 : decode cJ13_bitCount_95d88 43 = .ok (.bipush 16, 2) := by decide +kernel
theorem dJ13_bitCount_95d88_45 : decode cJ13_bitCount_95d88 45 = .ok (.lushr, 1) := by decide +kernel
theorem dJ13_bitCount_95d88_46 : decode cJ13_bitCount_95d88 46 = .ok (.ladd, 1) := by decide +kernel
theorem dJ13_bitCount_95d88_47 : decode cJ13_bitCount_95d88 47 = .ok (.lstore_n 0, 1) := by decide +kernel
theorem dJ13_bitCount_95d88_48 : decode cJ13_bitCount_95d88 48 = .ok (.lload_n 0, 1) := by decide +kernel
theorem dJ13_bitCount_95d88_49 : decode cJ13_bitCount_95d88 49 = .ok (.lload_n 0, 1) := by decide +kernel
theorem dJ13_bitCount_95d88_50 : decode cJ13_bitCount_95d88 50 = .ok (.bipush 32, 2) := by decide +kernel
theorem dJ13_bitCount_95d88_52 : decode cJ13_bitCount_95d88 52 = .ok (.lushr, 1) := by decide +kernel
theorem dJ13_bitCount_95d88_53 : decode cJ13_bitCount_95d88 53 = .ok (.ladd, 1) := by decide +kernel
theorem dJ13_bitCount_95d88_54 : decode cJ13_bitCount_95d88 54 = .ok (.lstore_n 0, 1) := by decide +kernel
theorem dJ13_bitCount_95d88_55 : decode cJ13_bitCount_95d88 55 = .ok (.lload_n 0, 1) := by decide +kernel
theorem dJ13_bitCount_95d88_56 : decode cJ13_bitCount_95d88 56 = .ok (.l2i, 1) := by decide +kernel
theorem dJ13_bitCount_95d88_57 : decode cJ13_bitCount_95d88 57 = .ok (.bipush 127, 2) := by decide +kernel
theorem dJ13_bitCount_95d88_59 : decode cJ13_bitCount_95d88 59 = .ok (.iand, 1) := by decide +kernel
theorem dJ13_bitCount_95d88_60 : decode cJ13_bitCount_95d88 60 = .ok (.ireturn, 1) := by decide +kernel
theorem dJ9_floorDiv_f86c9_0 : decode cJ9_floorDiv_f86c9 0 = .ok (.lload_n 0, 1) := by decide +kernel
theorem dJ9_floorDiv_f86c9_1 : decode cJ9_floorDiv_f86c9 1 = .ok (.lload_n 2, 1) := by decide +kernel
theorem dJ9_floorDiv_f86c9_2 : decode cJ9_floorDiv_f86c9 2 = .ok (.ldiv, 1) := by decide +kernel
theorem dJ9_floorDiv_f86c9_3 : decode cJ9_floorDiv_f86c9 3 = .ok (.lstore 4, 2) := by decide +kernel
theorem dJ9_floorDiv_f86c9_5 : decode cJ9_floorDiv_f86c9 5 = .ok (.lload_n 0, 1) := by decide +kernel
theorem dJ9_floorDiv_f86c9_6 : decode cJ9_floorDiv_f86c9 6 = .ok (.lload_n 2, 1) := by decide +kernel
theorem dJ9_floorDiv_f86c9_7 : decode cJ9_floorDiv_f86c9 7 = .ok (.lxor, 1) := by decide +kernel
theorem dJ9_floorDiv_f86c9_8 : decode cJ9_floorDiv_f86c9 8 = .ok (.lconst 0, 1) := by decide +kernel
theorem dJ9_floorDiv_f86c9_9 : decode cJ9_floorDiv_f86c9 9 = .ok (.lcmp, 1) := by decide +kernel
theorem dJ9_floorDiv_f86c9_10 : decode cJ9_floorDiv_f86c9 10 = .ok (.ifCond .ge 17, 3) := by decide +kernel
theorem dJ9_floorDiv_f86c9_13 : decode cJ9_floorDiv_f86c9 13 = .ok (.lload 4, 2) := by decide +kernel
theorem dJ9_floorDiv_f86c9_15 : decode cJ9_floorDiv_f86c9 15 = .ok (.lload_n 2, 1) := by decide +kernel
theorem dJ9_floorDiv_f86c9_16 : decode cJ9_floorDiv_f86c9 16 = .ok (.lmul, 1) := by decide +kernel
theorem dJ9_floorDiv_f86c9_17 : decode cJ9_floorDiv_f86c9 17 = .ok (.lload_n 0, 1) := by decide +kernel
theorem dJ9_floorDiv_f86c9_18 : decode cJ9_floorDiv_f86c9 18 = .ok (.lcmp, 1) := by decide +kernel
theorem dJ9_floorDiv_f86c9_19 : decode cJ9_floorDiv_f86c9 19 = .ok (.ifCond .eq 8, 3) := by decide +kernel
theorem dJ9_floorDiv_f86c9_22 : decode cJ9_floorDiv_f86c9 22 = .ok (.lload 4, 2) := by decide +kernel
theorem dJ9_floorDiv_f86c9_24 : decode cJ9_floorDiv_f86c9 24 = .ok (.lconst 1, 1) := by decide +kernel
theorem dJ9_floorDiv_f86c9_25 : decode cJ9_floorDiv_f86c9 25 = .ok (.lsub, 1) := by decide +kernel
theorem dJ9_floorDiv_f86c9_26 : decode cJ9_floorDiv_f86c9 26 = .ok (.lreturn, 1) := by decide +kernel
theorem dJ9_floorDiv_f86c9_27 : decode cJ9_floorDiv_f86c9 27 = .ok (.lload 4, 2) := by decide +kernel
theorem dJ9_floorDiv_f86c9_29 : decode cJ9_floorDiv_f86c9 29 = .ok (.lreturn, 1) := by decide +kernel
set_option maxRecDepth 20000 in
theorem ggJ0_length_8abf5_J0_coder_7d493 : GoodIn wsJ0_length_8abf5 wsJ0_coder_7d493 := goodIn_r _ [6, 7, 8] rfl (by decide +kernel)
set_option maxRecDepth 20000 in
theorem gJ0_length_8abf5_J0_coder_7d493 : GoodIn wsJ0_length_8abf5 (wsV RJ0 335 RJ0 yJ0_coder_7d493 wsJ0_coder_7d493) := goodIn_app (goodIn_of _ (by decide +kernel)) ggJ0_length_8abf5_J0_coder_7d493
theorem dJ0_length_8abf5_0 : decode cJ0_length_8abf5 0 = .ok (.aload_n 0, 1) := by decide +kernel
theorem dJ0_length_8abf5_1 : decode cJ0_length_8abf5 1 = .ok (.getfield 9, 3) := by decide +kernel
theorem dJ0_length_8abf5_4 : decode cJ0_length_8abf5 4 = .ok (.arraylength, 1) := by decide +kernel
theorem dJ0_length_8abf5_5 : decode cJ0_length_8abf5 5 = .ok (.aload_n 0, 1) := by decide +kernel
theorem dJ0_length_8abf5_6 : decode cJ0_length_8abf5 6 = .ok (.invokevirtual 335, 3) := by decide +kernel
theorem dJ0_length_8abf5_9 : decode cJ0_length_8abf5 9 = .ok (.ishr, 1) := by decide +kernel
theorem dJ0_length_8abf5_10 : decode cJ0_length_8abf5 10 = .ok (.ireturn, 1) := by decide +kernel
set_option maxRecDepth 20000 in
theorem ggJ0_charAt_5068e_J0_isLatin1_aae02 : GoodIn wsJ0_charAt_5068e wsJ0_isLatin1_aae02 := goodIn_r _ [6, 7, 8] rfl (by decide +kernel)
set_option maxRecDepth 20000 in
theorem gJ0_charAt_5068e_J0_isLatin1_aae02 : GoodIn wsJ0_charAt_5068e (wsV RJ0 492 RJ0 yJ0_isLatin1_aae02 wsJ0_isLatin1_aae02) := goodIn_app (goodIn_of _ (by decide +kernel)) ggJ0_charAt_5068e_J0_isLatin1_aae02
set_option maxRecDepth 20000 in
theorem ggJ0_charAt_5068e_J1_charAt_3b067 : GoodIn wsJ0_charAt_5068e wsJ1_charAt_3b067 := goodIn_r _ [12, 13, 14, 5, 15, 16, 17, 18, 19, 20] rfl (by decide +kernel)
set_option maxRecDepth 20000 in
theorem gJ0_charAt_5068e_J1_charAt_3b067 : GoodIn wsJ0_charAt_5068e (va_wsS RJ0 495 yJ1_charAt_3b067 wsJ1_charAt_3b067) := goodIn_app (goodIn_of _ (by decide +kernel)) ggJ0_charAt_5068e_J1_charAt_3b067
set_option maxRecDepth 20000 in
theorem ggJ0_charAt_5068e_J2_charAt_3b067 : GoodIn wsJ0_charAt_5068e wsJ2_charAt_3b067 := goodIn_r _ [24, 25, 26, 23, 27, 28, 29, 30, 31, 14, 5, 15, 16, 17, 18, 19, 20, 32, 33, 34, 35, 36, 37] rfl (by decide +kernel)
set_option maxRecDepth 20000 in
theorem gJ0_charAt_5068e_J2_charAt_3b067 : GoodIn wsJ0_charAt_5068e (va_wsS RJ0 498 yJ2_charAt_3b067 wsJ2_charAt_3b067) := goodIn_app (goodIn_of _ (by decide +kernel)) ggJ0_charAt_5068e_J2_charAt_3b067
theorem dJ0_charAt_5068e_0 : decode cJ0_charAt_5068e 0 = .ok (.aload_n 0, 1) := by decide +kernel
theorem dJ0_charAt_5068e_1 : decode cJ0_charAt_5068e 1 = .ok (.invokevirtual 492, 3) := by decide +kernel
theorem dJ0_charAt_5068e_4 : decode cJ0_charAt_5068e 4 = .ok (.ifCond .eq 12, 3) := by decide +kernel
theorem dJ0_charAt_5068e_7 : decode cJ0_charAt_5068e 7 = .ok (.aload_n 0, 1) := by decide +kernel
theorem dJ0_charAt_5068e_8 : decode cJ0_charAt_5068e 8 = .ok (.getfield 9, 3) := by decide +kernel
theorem dJ0_charAt_5068e_11 : decode cJ0_charAt_5068e 11 = .ok (.iload_n 1, 1) := by decide +kernel
theorem dJ0_charAt_5068e_12 : decode cJ0_charAt_5068e 12 = .ok (.invokestatic 495, 3) := by decide +kernel
theorem dJ0_charAt_5068e_15 : decode cJ0_charAt_5068e 15 = .ok (.ireturn, 1) := by decide +kernel
theorem dJ0_charAt_5068e_16 : decode cJ0_charAt_5068e 16 = .ok (.aload_n 0, 1) := by decide +kernel
theorem dJ0_charAt_5068e_17 : decode cJ0_charAt_5068e 17 = .ok (.getfield 9, 3) := by decide +kernel
theorem dJ0_charAt_5068e_20 : decode cJ0_charAt_5068e 20 = .ok (.iload_n 1, 1) := by decide +kernel
theorem dJ0_charAt_5068e_21 : decode cJ0_charAt_5068e 21 = .ok (.invokestatic 498, 3) := by decide +kernel
theorem dJ0_charAt_5068e_24 : decode cJ0_charAt_5068e 24 = .ok (.ireturn, 1) := by decide +kernel
theorem dJ0_coder_7d493_0 : decode cJ0_coder_7d493 0 = .ok (.getstatic 38, 3) := by decide +kernel
theorem dJ0_coder_7d493_3 : decode cJ0_coder_7d493 3 = .ok (.ifCond .eq 10, 3) := by decide +kernel
theorem dJ0_coder_7d493_6 : decode cJ0_coder_7d493 6 = .ok (.aload_n 0, 1) := by decide +kernel
theorem dJ0_coder_7d493_7 : decode cJ0_coder_7d493 7 = .ok (.getfield 15, 3) := by decide +kernel
theorem dJ0_coder_7d493_10 : decode cJ0_coder_7d493 10 = .ok (.goto 4, 3) := by decide +kernel
theorem dJ0_coder_7d493_13 : decode cJ0_coder_7d493 13 = .ok (.iconst 1, 1) := by decide +kernel
theorem dJ0_coder_7d493_14 : decode cJ0_coder_7d493 14 = .ok (.ireturn, 1) := by decide +kernel
theorem dJ0_isLatin1_aae02_0 : decode cJ0_isLatin1_aae02 0 = .ok (.getstatic 38, 3) := by decide +kernel
theorem dJ0_isLatin1_aae02_3 : decode cJ0_isLatin1_aae02 3 = .ok (.ifCond .eq 14, 3) := by decide +kernel
theorem dJ0_isLatin1_aae02_6 : decode cJ0_isLatin1_aae02 6 = .ok (.aload_n 0, 1) := by decide +kernel
theorem dJ0_isLatin1_aae02_7 : decode cJ0_isLatin1_aae02 7 = .ok (.getfield 15, 3) := by decide +kernel
theorem dJ0_isLatin1_aae02_10 : decode cJ0_isLatin1_aae02 10 = .ok (.ifCond .ne 7, 3) := by decide +kernel
theorem dJ0_isLatin1_aae02_13 : decode cJ0_isLatin1_aae02 13 = .ok (.iconst 1, 1) := by decide +kernel
theorem dJ0_isLatin1_aae02_14 : decode cJ0_isLatin1_aae02 14 = .ok (.goto 4, 3) := by decide +kernel
theorem dJ0_isLatin1_aae02_17 : decode cJ0_isLatin1_aae02 17 = .ok (.iconst 0, 1) := by decide +kernel
theorem dJ0_isLatin1_aae02_18 : decode cJ0_isLatin1_aae02 18 = .ok (.ireturn, 1) := by decide +kernel
set_option maxRecDepth 20000 in
theorem ggJ0_checkIndex_df160_J3_checkIndex_8e157 : GoodIn wsJ0_checkIndex_df160 wsJ3_checkIndex_8e157 := goodIn_r _ [5] rfl (by decide +kernel)
set_option maxRecDepth 20000 in
theorem gJ0_checkIndex_df160_J3_checkIndex_8e157 : GoodIn wsJ0_checkIndex_df160 (va_wsS RJ0 1059 yJ3_checkIndex_8e157 wsJ3_checkIndex_8e157) := goodIn_app (goodIn_of _ (by decide +kernel)) ggJ0_checkIndex_df160_J3_checkIndex_8e157
theorem dJ0_checkIndex_df160_0 : decode cJ0_checkIndex_df160 0 = .ok (.iload_n 0, 1) := by decide +kernel
theorem dJ0_checkIndex_df160_1 : decode cJ0_checkIndex_df160 1 = .ok (.iload_n 1, 1) := by decide +kernel
theorem dJ0_checkIndex_df160_2 : decode cJ0_checkIndex_df160 2 = .ok (.getstatic 1053, 3) := by decide +kernel
theorem dJ0_checkIndex_df160_5 : decode cJ0_checkIndex_df160 5 = .ok (.invokestatic 1059, 3) := by decide +kernel
theorem dJ0_checkIndex_df160_8 : decode cJ0_checkIndex_df160 8 = .ok (.pop, 1) := by decide +kernel
theorem dJ0_checkIndex_df160_9 : decode cJ0_checkIndex_df160 9 = .ok (.return_, 1) := by decide +kernel
set_option maxRecDepth 20000 in
theorem ggJ1_charAt_3b067_J0_checkIndex_df160 : GoodIn wsJ1_charAt_3b067 wsJ0_checkIndex_df160 := goodIn_r _ [4, 5, 6, 7, 8, 9] rfl (by decide +kernel)
set_option maxRecDepth 20000 in
theorem gJ1_charAt_3b067_J0_checkIndex_df160 : GoodIn wsJ1_charAt_3b067 (va_wsS RJ1 9 yJ0_checkIndex_df160 wsJ0_checkIndex_df160) := goodIn_app (goodIn_of _ (by decide +kernel)) ggJ1_charAt_3b067_J0_checkIndex_df160
theorem dJ1_charAt_3b067_0 : decode cJ1_charAt_3b067 0 = .ok (.iload_n 1, 1) := by decide +kernel
theorem dJ1_charAt_3b067_1 : decode cJ1_charAt_3b067 1 = .ok (.aload_n 0, 1) := by decide +kernel
theorem dJ1_charAt_3b067_2 : decode cJ1_charAt_3b067 2 = .ok (.arraylength, 1) := by decide +kernel
theorem dJ1_charAt_3b067_3 : decode cJ1_charAt_3b067 3 = .ok (.invokestatic 9, 3) := by decide +kernel
theorem dJ1_charAt_3b067_6 : decode cJ1_charAt_3b067 6 = .ok (.aload_n 0, 1) := by decide +kernel
theorem dJ1_charAt_3b067_7 : decode cJ1_charAt_3b067 7 = .ok (.iload_n 1, 1) := by decide +kernel
theorem dJ1_charAt_3b067_8 : decode cJ1_charAt_3b067 8 = .ok (.baload, 1) := by decide +kernel
theorem dJ1_charAt_3b067_9 : decode cJ1_charAt_3b067 9 = .ok (.sipush 255, 3) := by decide +kernel
theorem dJ1_charAt_3b067_12 : decode cJ1_charAt_3b067 12 = .ok (.iand, 1) := by decide +kernel
theorem dJ1_charAt_3b067_13 : decode cJ1_charAt_3b067 13 = .ok (.i2c, 1) := by decide +kernel
theorem dJ1_charAt_3b067_14 : decode cJ1_charAt_3b067 14 = .ok (.ireturn, 1) := by decide +kernel
set_option maxRecDepth 20000 in
theorem ggJ2_getChar_3b067_J2_length_9d52b : GoodIn wsJ2_getChar_3b067 wsJ2_length_9d52b := goodIn_r _ [7] rfl (by decide +kernel)
set_option maxRecDepth 20000 in
theorem gJ2_getChar_3b067_J2_length_9d52b : GoodIn wsJ2_getChar_3b067 (va_wsS RJ2 48 yJ2_length_9d52b wsJ2_length_9d52b) := goodIn_app (goodIn_of _ (by decide +kernel)) ggJ2_getChar_3b067_J2_length_9d52b
theorem dJ2_getChar_3b067_0 : decode cJ2_getChar_3b067 0 = .ok (.getstatic 44, 3) := by decide +kernel
theorem dJ2_getChar_3b067_3 : decode cJ2_getChar_3b067 3 = .ok (.ifCond .ne 25, 3) := by decide +kernel
theorem dJ2_getChar_3b067_6 : decode cJ2_getChar_3b067 6 = .ok (.iload_n 1, 1) := by decide +kernel
theorem dJ2_getChar_3b067_7 : decode cJ2_getChar_3b067 7 = .ok (.ifCond .lt 11, 3) := by decide +kernel
theorem dJ2_getChar_3b067_10 : decode cJ2_getChar_3b067 10 = .ok (.iload_n 1, 1) := by decide +kernel
theorem dJ2_getChar_3b067_11 : decode cJ2_getChar_3b067 11 = .ok (.aload_n 0, 1) := by decide +kernel
theorem dJ2_getChar_3b067_12 : decode cJ2_getChar_3b067 12 = .ok (.invokestatic 48, 3) := by decide +kernel
theorem dJ2_getChar_3b067_15 : decode cJ2_getChar_3b067 15 = .ok (.if_icmp .lt 13, 3) := by decide +kernel
theorem dJ2_getChar_3b067_18 : decode cJ2_getChar_3b067 18 = .ok (.new 52, 3) := by decide +kernel
theorem dJ2_getChar_3b067_21 : decode cJ2_getChar_3b067 21 = .ok (.dup, 1) := by decide +kernel
theorem dJ2_getChar_3b067_22 : decode cJ2_getChar_3b067 22 = .ok (.ldc 54, 2) := by decide +kernel
theorem dJ2_getChar_3b067_24 : decode cJ2_getChar_3b067 24 = .ok (.invokespecial 56, 3) := by decide +kernel
theorem dJ2_getChar_3b067_27 : decode cJ2_getChar_3b067 27 = .ok (.athrow, 1) := by decide +kernel
theorem dJ2_getChar_3b067_28 : decode cJ2_getChar_3b067 28 = .ok (.iload_n 1, 1) := by decide +kernel
theorem dJ2_getChar_3b067_29 : decode cJ2_getChar_3b067 29 = .ok (.iconst 1, 1) := by decide +kernel
theorem dJ2_getChar_3b067_30 : decode cJ2_getChar_3b067 30 = .ok (.ishl, 1) := by decide +kernel
theorem dJ2_getChar_3b067_31 : decode cJ2_getChar_3b067 31 = .ok (.istore_n 1, 1) := by decide +kernel
theorem dJ2_getChar_3b067_32 : decode cJ2_getChar_3b067 32 = .ok (.aload_n 0, 1) := by decide +kernel
theorem dJ2_getChar_3b067_33 : decode cJ2_getChar_3b067 33 = .ok (.iload_n 1, 1) := by decide +kernel
theorem dJ2_getChar_3b067_34 : decode cJ2_getChar_3b067 34 = .ok (.iinc 1 1, 3) := by decide +kernel
theorem dJ2_getChar_3b067_37 : decode cJ2_getChar_3b067 37 = .ok (.baload, 1) := by decide +kernel
theorem dJ2_getChar_3b067_38 : decode cJ2_getChar_3b067 38 = .ok (.sipush 255, 3) := by decide +kernel
theorem dJ2_getChar_3b067_41 : decode cJ2_getChar_3b067 41 = .ok (.iand, 1) := by decide +kernel
theorem dJ2_getChar_3b067_42 : decode cJ2_getChar_3b067 42 = .ok (.getstatic 59, 3) := by decide +kernel
theorem dJ2_getChar_3b067_45 : decode cJ2_getChar_3b067 45 = .ok (.ishl, 1) := by decide +kernel
theorem dJ2_getChar_3b067_46 : decode cJ2_getChar_3b067 46 = .ok (.aload_n 0, 1) := by decide +kernel
theorem dJ2_getChar_3b067_47 : decode cJ2_getChar_3b067 47 = .ok (.iload_n 1, 1) := by decide +kernel
theorem dJ2_getChar_3b067_48 : decode cJ2_getChar_3b067 48 = .ok (.baload, 1) := by decide +kernel
theorem dJ2_getChar_3b067_49 : decode cJ2_getChar_3b067 49 = .ok (.sipush 255, 3) := by decide +kernel
theorem dJ2_getChar_3b067_52 : decode cJ2_getChar_3b067 52 = .ok (.iand, 1) := by decide +kernel
theorem dJ2_getChar_3b067_53 : decode cJ2_getChar_3b067 53 = .ok (.getstatic 63, 3) := by decide +kernel
theorem dJ2_getChar_3b067_56 : decode cJ2_getChar_3b067 56 = .ok (.ishl, 1) := by decide +kernel
theorem dJ2_getChar_3b067_57 : decode cJ2_getChar_3b067 57 = .ok (.ior, 1) := by decide +kernel
theorem dJ2_getChar_3b067_58 : decode cJ2_getChar_3b067 58 = .ok (.i2c, 1) := by decide +kernel
theorem dJ2_getChar_3b067_59 : decode cJ2_getChar_3b067 59 = .ok (.ireturn, 1) := by decide +kernel
theorem dJ2_length_9d52b_0 : decode cJ2_length_9d52b 0 = .ok (.aload_n 0, 1) := by decide +kernel
theorem dJ2_length_9d52b_1 : decode cJ2_length_9d52b 1 = .ok (.arraylength, 1) := by decide +kernel
theorem dJ2_length_9d52b_2 : decode cJ2_length_9d52b 2 = .ok (.iconst 1, 1) := by decide +kernel
theorem dJ2_length_9d52b_3 : decode cJ2_length_9d52b 3 = .ok (.ishr, 1) := by decide +kernel
theorem dJ2_length_9d52b_4 : decode cJ2_length_9d52b 4 = .ok (.ireturn, 1) := by decide +kernel
set_option maxRecDepth 20000 in
theorem ggJ2_charAt_3b067_J2_checkIndex_2214a : GoodIn wsJ2_charAt_3b067 wsJ2_checkIndex_2214a := goodIn_r _ [4, 5, 6, 3, 7, 8, 9, 10, 11, 12, 13, 14, 15, 16] rfl (by decide +kernel)
set_option maxRecDepth 20000 in
theorem gJ2_charAt_3b067_J2_checkIndex_2214a : GoodIn wsJ2_charAt_3b067 (va_wsS RJ2 67 yJ2_checkIndex_2214a wsJ2_checkIndex_2214a) := goodIn_app (goodIn_of _ (by decide +kernel)) ggJ2_charAt_3b067_J2_checkIndex_2214a
set_option maxRecDepth 20000 in
theorem ggJ2_charAt_3b067_J2_getChar_3b067 : GoodIn wsJ2_charAt_3b067 wsJ2_getChar_3b067 := goodIn_r _ [19, 20, 21, 22, 5, 6, 3, 7] rfl (by decide +kernel)
set_option maxRecDepth 20000 in
theorem gJ2_charAt_3b067_J2_getChar_3b067 : GoodIn wsJ2_charAt_3b067 (va_wsS RJ2 71 yJ2_getChar_3b067 wsJ2_getChar_3b067) := goodIn_app (goodIn_of _ (by decide +kernel)) ggJ2_charAt_3b067_J2_getChar_3b067
theorem dJ2_charAt_3b067_0 : decode cJ2_charAt_3b067 0 = .ok (.iload_n 1, 1) := by decide +kernel
theorem dJ2_charAt_3b067_1 : decode cJ2_charAt_3b067 1 = .ok (.aload_n 0, 1) := by decide +kernel
theorem dJ2_charAt_3b067_2 : decode cJ2_charAt_3b067 2 = .ok (.invokestatic 67, 3) := by decide +kernel
theorem dJ2_charAt_3b067_5 : decode cJ2_charAt_3b067 5 = .ok (.aload_n 0, 1) := by decide +kernel
theorem dJ2_charAt_3b067_6 : decode cJ2_charAt_3b067 6 = .ok (.iload_n 1, 1) := by decide +kernel
theorem dJ2_charAt_3b067_7 : decode cJ2_charAt_3b067 7 = .ok (.invokestatic 71, 3) := by decide +kernel
theorem dJ2_charAt_3b067_10 : decode cJ2_charAt_3b067 10 = .ok (.ireturn, 1) := by decide +kernel
set_option maxRecDepth 20000 in
theorem ggJ2_checkIndex_2214a_J2_length_9d52b : GoodIn wsJ2_checkIndex_2214a wsJ2_length_9d52b := goodIn_r _ [4] rfl (by decide +kernel)
set_option maxRecDepth 20000 in
theorem gJ2_checkIndex_2214a_J2_length_9d52b : GoodIn wsJ2_checkIndex_2214a (va_wsS RJ2 48 yJ2_length_9d52b wsJ2_length_9d52b) := goodIn_app (goodIn_of _ (by decide +kernel)) ggJ2_checkIndex_2214a_J2_length_9d52b
set_option maxRecDepth 20000 in
theorem ggJ2_checkIndex_2214a_J0_checkIndex_df160 : GoodIn wsJ2_checkIndex_2214a wsJ0_checkIndex_df160 := goodIn_r _ [8, 9, 10, 11, 12, 13] rfl (by decide +kernel)
set_option maxRecDepth 20000 in
theorem gJ2_checkIndex_2214a_J0_checkIndex_df160 : GoodIn wsJ2_checkIndex_2214a (va_wsS RJ2 414 yJ0_checkIndex_df160 wsJ0_checkIndex_df160) := goodIn_app (goodIn_of _ (by decide +kernel)) ggJ2_checkIndex_2214a_J0_checkIndex_df160
theorem dJ2_checkIndex_2214a_0 : decode cJ2_checkIndex_2214a 0 = .ok (.iload_n 0, 1) := by decide +kernel
theorem dJ2_checkIndex_2214a_1 : decode cJ2_checkIndex_2214a 1 = .ok (.aload_n 1, 1) := by decide +kernel
theorem dJ2_checkIndex_2214a_2 : decode cJ2_checkIndex_2214a 2 = .ok (.invokestatic 48, 3) := by decide +kernel
theorem dJ2_checkIndex_2214a_5 : decode cJ2_checkIndex_2214a 5 = .ok (.invokestatic 414, 3) := by decide +kernel
theorem dJ2_checkIndex_2214a_8 : decode cJ2_checkIndex_2214a 8 = .ok (.return_, 1) := by decide +kernel
theorem dJ3_checkIndex_8e157_0 : decode cJ3_checkIndex_8e157 0 = .ok (.iload_n 0, 1) := by decide +kernel
theorem dJ3_checkIndex_8e157_1 : decode cJ3_checkIndex_8e157 1 = .ok (.ifCond .lt 8, 3) := by decide +kernel
theorem dJ3_checkIndex_8e157_4 : decode cJ3_checkIndex_8e157 4 = .ok (.iload_n 0, 1) := by decide +kernel
theorem dJ3_checkIndex_8e157_5 : decode cJ3_checkIndex_8e157 5 = .ok (.iload_n 1, 1) := by decide +kernel
theorem dJ3_checkIndex_8e157_6 : decode cJ3_checkIndex_8e157 6 = .ok (.if_icmp .lt 10, 3) := by decide +kernel
theorem dJ3_checkIndex_8e157_9 : decode cJ3_checkIndex_8e157 9 = .ok (.aload_n 2, 1) := by decide +kernel
theorem dJ3_checkIndex_8e157_10 : decode cJ3_checkIndex_8e157 10 = .ok (.iload_n 0, 1) := by decide +kernel
theorem dJ3_checkIndex_8e157_11 : decode cJ3_checkIndex_8e157 11 = .ok (.iload_n 1, 1) := by decide +kernel
theorem dJ3_checkIndex_8e157_12 : decode cJ3_checkIndex_8e157 12 = .ok (.invokestatic 95, 3) := by decide +kernel
theorem dJ3_checkIndex_8e157_15 : decode cJ3_checkIndex_8e157 15 = .ok (.athrow, 1) := by decide +kernel
theorem dJ3_checkIndex_8e157_16 : decode cJ3_checkIndex_8e157 16 = .ok (.iload_n 0, 1) := by decide +kernel
theorem dJ3_checkIndex_8e157_17 : decode cJ3_checkIndex_8e157 17 = .ok (.ireturn, 1) := by decide +kernel
set_option maxRecDepth 20000 in
theorem ggL_set_X3_set : GoodIn wsL_set wsX3_set := goodIn_ca (goodIn_r _ [6, 7, 8, 9, 10, 11, 12, 13, 14, 15, 16, 17, 18, 19, 20, 21] rfl (by decide +kernel)) (goodIn_sub (fun _ h => List.mem_cons_of_mem _ (List.mem_append_right _ h)) (by decide +kernel))
set_option maxRecDepth 20000 in
theorem gL_set_X3_set : GoodIn wsL_set (wsV RL 7 RX3 yX3_set wsX3_set) := goodIn_app (goodIn_of _ (by decide +kernel)) ggL_set_X3_set
theorem dL_set_0 : decode cL_set 0 = .ok (.aload 4, 2) := by decide +kernel
theorem dL_set_2 : decode cL_set 2 = .ok (.iconst 0, 1) := by decide +kernel
theorem dL_set_3 : decode cL_set 3 = .ok (.aload_n 0, 1) := by decide +kernel
theorem dL_set_4 : decode cL_set 4 = .ok (.iload_n 1, 1) := by decide +kernel
theorem dL_set_5 : decode cL_set 5 = .ok (.lload_n 2, 1) := by decide +kernel
theorem dL_set_6 : decode cL_set 6 = .ok (.invokevirtual 7, 3) := by decide +kernel
theorem dL_set_9 : decode cL_set 9 = .ok (.lastore, 1) := by decide +kernel
theorem dL_set_10 : decode cL_set 10 = .ok (.goto 7, 3) := by decide +kernel
theorem dL_set_13 : decode cL_set 13 = .ok (.astore 5, 2) := by decide +kernel
theorem dL_set_15 : decode cL_set 15 = .ok (.iconst 1, 1) := by decide +kernel
theorem dL_set_16 : decode cL_set 16 = .ok (.ireturn, 1) := by decide +kernel
theorem dL_set_17 : decode cL_set 17 = .ok (.iconst 0, 1) := by decide +kernel
theorem dL_set_18 : decode cL_set 18 = .ok (.ireturn, 1) := by decide +kernel
set_option maxRecDepth 20000 in
theorem ggL_get_X3_get : GoodIn wsL_get wsX3_get := goodIn_ca (goodIn_r _ [6, 7, 8, 9, 10, 11, 12, 13, 14, 15, 16, 17, 18, 19, 20, 21, 22] rfl (by decide +kernel)) (goodIn_sub (fun _ h => List.mem_cons_of_mem _ (List.mem_append_right _ h)) (by decide +kernel))
set_option maxRecDepth 20000 in
theorem gL_get_X3_get : GoodIn wsL_get (wsV RL 15 RX3 yX3_get wsX3_get) := goodIn_app (goodIn_of _ (by decide +kernel)) ggL_get_X3_get
theorem dL_get_0 : decode cL_get 0 = .ok (.aload_n 2, 1) := by decide +kernel
theorem dL_get_1 : decode cL_get 1 = .ok (.iconst 0, 1) := by decide +kernel
theorem dL_get_2 : decode cL_get 2 = .ok (.aload_n 0, 1) := by decide +kernel
theorem dL_get_3 : decode cL_get 3 = .ok (.iload_n 1, 1) := by decide +kernel
theorem dL_get_4 : decode cL_get 4 = .ok (.invokevirtual 15, 3) := by decide +kernel
theorem dL_get_7 : decode cL_get 7 = .ok (.lastore, 1) := by decide +kernel
theorem dL_get_8 : decode cL_get 8 = .ok (.goto 6, 3) := by decide +kernel
theorem dL_get_11 : decode cL_get 11 = .ok (.astore_n 3, 1) := by decide +kernel
theorem dL_get_12 : decode cL_get 12 = .ok (.iconst 1, 1) := by decide +kernel
theorem dL_get_13 : decode cL_get 13 = .ok (.ireturn, 1) := by decide +kernel
theorem dL_get_14 : decode cL_get 14 = .ok (.iconst 0, 1) := by decide +kernel
theorem dL_get_15 : decode cL_get 15 = .ok (.ireturn, 1) := by decide +kernel
set_option maxRecDepth 20000 in
theorem ggL_poke_X3_poke : GoodIn wsL_poke wsX3_poke := goodIn_ca (goodIn_r _ [6, 7, 8, 9, 10, 11, 5, 12, 13, 14, 15, 16, 17, 18, 19, 20, 21, 22, 23, 24, 25, 26, 27, 28, 29, 30, 31, 32, 33, 34, 35, 36, 37, 38, 39, 40, 41, 42, 43, 44] rfl (by decide +kernel)) (goodIn_sub (fun _ h => List.mem_cons_of_mem _ (List.mem_append_right _ h)) (by decide +kernel))
set_option maxRecDepth 20000 in
theorem gL_poke_X3_poke : GoodIn wsL_poke (wsV RL 19 RX3 yX3_poke wsX3_poke) := goodIn_app (goodIn_of _ (by decide +kernel)) ggL_poke_X3_poke
theorem dL_poke_0 : decode cL_poke 0 = .ok (.aload 4, 2) := by decide +kernel
theorem dL_poke_2 : decode cL_poke 2 = .ok (.iconst 0, 1) := by decide +kernel
theorem dL_poke_3 : decode cL_poke 3 = .ok (.aload_n 0, 1) := by decide +kernel
theorem dL_poke_4 : decode cL_poke 4 = .ok (.iload_n 1, 1) := by decide +kernel
theorem dL_poke_5 : decode cL_poke 5 = .ok (.lload_n 2, 1) := by decide +kernel
theorem dL_poke_6 : decode cL_poke 6 = .ok (.invokevirtual 19, 3) := by decide +kernel
theorem dL_poke_9 : decode cL_poke 9 = .ok (.lastore, 1) := by decide +kernel
theorem dL_poke_10 : decode cL_poke 10 = .ok (.goto 7, 3) := by decide +kernel
theorem dL_poke_13 : decode cL_poke 13 = .ok (.astore 5, 2) := by decide +kernel
theorem dL_poke_15 : decode cL_poke 15 = .ok (.iconst 1, 1) := by decide +kernel
theorem dL_poke_16 : decode cL_poke 16 = .ok (.ireturn, 1) := by decide +kernel
theorem dL_poke_17 : decode cL_poke 17 = .ok (.iconst 0, 1) := by decide +kernel
theorem dL_poke_18 : decode cL_poke 18 = .ok (.ireturn, 1) := by decide +kernel
set_option maxRecDepth 20000 in
theorem ggL_peek_X3_peek : GoodIn wsL_peek wsX3_peek := goodIn_ca (goodIn_r _ [6, 7, 8, 9, 10, 11, 5, 12, 13, 14, 15, 16, 17, 18, 19, 20, 21, 22, 23, 24, 25, 26, 27, 28, 29, 30, 31, 32, 33, 34, 35, 36, 37, 38, 39, 40, 41] rfl (by decide +kernel)) (goodIn_sub (fun _ h => List.mem_cons_of_mem _ (List.mem_append_right _ h)) (by decide +kernel))
set_option maxRecDepth 20000 in
theorem gL_peek_X3_peek : GoodIn wsL_peek (wsV RL 24 RX3 yX3_peek wsX3_peek) := goodIn_app (goodIn_of _ (by decide +kernel)) ggL_peek_X3_peek
theorem dL_peek_0 : decode cL_peek 0 = .ok (.aload_n 2, 1) := by decide +kernel
theorem dL_peek_1 : decode cL_peek 1 = .ok (.iconst 0, 1) := by decide +kernel
theorem dL_peek_2 : decode cL_peek 2 = .ok (.aload_n 0, 1) := by decide +kernel
theorem dL_peek_3 : decode cL_peek 3 = .ok (.iload_n 1, 1) := by decide +kernel
theorem dL_peek_4 : decode cL_peek 4 = .ok (.invokevirtual 24, 3) := by decide +kernel
theorem dL_peek_7 : decode cL_peek 7 = .ok (.lastore, 1) := by decide +kernel
theorem dL_peek_8 : decode cL_peek 8 = .ok (.goto 6, 3) := by decide +kernel
theorem dL_peek_11 : decode cL_peek 11 = .ok (.astore_n 3, 1) := by decide +kernel
theorem dL_peek_12 : decode cL_peek 12 = .ok (.iconst 1, 1) := by decide +kernel
theorem dL_peek_13 : decode cL_peek 13 = .ok (.ireturn, 1) := by decide +kernel
theorem dL_peek_14 : decode cL_peek 14 = .ok (.iconst 0, 1) := by decide +kernel
theorem dL_peek_15 : decode cL_peek 15 = .ok (.ireturn, 1) := by decide +kernel
set_option maxRecDepth 20000 in
theorem ggL_at_X3_at : GoodIn wsL_at wsX3_at := goodIn_ca (goodIn_r _ [6, 7, 8, 9, 10, 11, 5, 12, 13, 14, 15, 16, 17, 18, 19, 20, 21, 22, 23, 24, 25] rfl (by decide +kernel)) (goodIn_sub (fun _ h => List.mem_cons_of_mem _ (List.mem_append_right _ h)) (by decide +kernel))
set_option maxRecDepth 20000 in
theorem gL_at_X3_at : GoodIn wsL_at (wsV RL 27 RX3 yX3_at wsX3_at) := goodIn_app (goodIn_of _ (by decide +kernel)) ggL_at_X3_at
theorem dL_at_0 : decode cL_at 0 = .ok (.aload_n 2, 1) := by decide +kernel
theorem dL_at_1 : decode cL_at 1 = .ok (.iconst 0, 1) := by decide +kernel
theorem dL_at_2 : decode cL_at 2 = .ok (.aload_n 0, 1) := by decide +kernel
theorem dL_at_3 : decode cL_at 3 = .ok (.iload_n 1, 1) := by decide +kernel
theorem dL_at_4 : decode cL_at 4 = .ok (.invokevirtual 27, 3) := by decide +kernel
theorem dL_at_7 : decode cL_at 7 = .ok (.i2l, 1) := by decide +kernel
theorem dL_at_8 : decode cL_at 8 = .ok (.lastore, 1) := by decide +kernel
theorem dL_at_9 : decode cL_at 9 = .ok (.goto 6, 3) := by decide +kernel
theorem dL_at_12 : decode cL_at 12 = .ok (.astore_n 3, 1) := by decide +kernel
theorem dL_at_13 : decode cL_at 13 = .ok (.iconst 1, 1) := by decide +kernel
theorem dL_at_14 : decode cL_at 14 = .ok (.ireturn, 1) := by decide +kernel
theorem dL_at_15 : decode cL_at 15 = .ok (.iconst 0, 1) := by decide +kernel
theorem dL_at_16 : decode cL_at 16 = .ok (.ireturn, 1) := by decide +kernel
set_option maxRecDepth 20000 in
theorem ggL_put_X3_put : GoodIn wsL_put wsX3_put := goodIn_ca (goodIn_ca (goodIn_r _ [6, 7, 8, 9, 10, 11, 12, 13, 14, 15, 16, 17, 18, 19, 20, 21, 22, 23, 24, 25, 26, 27, 28, 29, 30, 31, 32, 33, 34, 35, 36, 37, 38, 39, 40, 41, 42, 43, 44, 45, 46, 47, 48, 49, 50, 51, 52, 53, 54, 55, 56, 57, 58, 59, 60, 61, 62, 63, 64, 65, 66, 67, 68, 69, 70, 71, 72, 73, 74, 75, 76, 77, 78, 79, 80, 81, 82, 83, 84, 85, 86, 87, 5, 88, 89, 90, 91, 92, 93, 94, 95, 96, 97, 98, 99, 100, 101, 102, 103, 104, 105, 106, 107, 108, 109, 110, 111, 112, 113, 114, 115, 116, 117] rfl (by decide +kernel)) (goodIn_sub (fun _ h => List.mem_cons_of_mem _ (List.mem_append_left _ (List.mem_append_right _ h))) (by decide +kernel))) (goodIn_sub (fun _ h => List.mem_cons_of_mem _ (List.mem_append_right _ h)) (by decide +kernel))
set_option maxRecDepth 20000 in
theorem gL_put_X3_put : GoodIn wsL_put (wsV RL 31 RX3 yX3_put wsX3_put) := goodIn_app (goodIn_of _ (by decide +kernel)) ggL_put_X3_put
theorem dL_put_0 : decode cL_put 0 = .ok (.aload 5, 2) := by decide +kernel
theorem dL_put_2 : decode cL_put 2 = .ok (.iconst 0, 1) := by decide +kernel
theorem dL_put_3 : decode cL_put 3 = .ok (.aload_n 0, 1) := by decide +kernel
theorem dL_put_4 : decode cL_put 4 = .ok (.iload_n 1, 1) := by decide +kernel
theorem dL_put_5 : decode cL_put 5 = .ok (.iload_n 2, 1) := by decide +kernel
theorem dL_put_6 : decode cL_put 6 = .ok (.iload_n 3, 1) := by decide +kernel
theorem dL_put_7 : decode cL_put 7 = .ok (.iload 4, 2) := by decide +kernel
theorem dL_put_9 : decode cL_put 9 = .ok (.invokevirtual 31, 3) := by decide +kernel
theorem dL_put_12 : decode cL_put 12 = .ok (.i2l, 1) := by decide +kernel
theorem dL_put_13 : decode cL_put 13 = .ok (.lastore, 1) := by decide +kernel
theorem dL_put_14 : decode cL_put 14 = .ok (.goto 11, 3) := by decide +kernel
theorem dL_put_17 : decode cL_put 17 = .ok (.astore 6, 2) := by decide +kernel
theorem dL_put_19 : decode cL_put 19 = .ok (.iconst 1, 1) := by decide +kernel
theorem dL_put_20 : decode cL_put 20 = .ok (.ireturn, 1) := by decide +kernel
theorem dL_put_21 : decode cL_put 21 = .ok (.astore 6, 2) := by decide +kernel
theorem dL_put_23 : decode cL_put 23 = .ok (.iconst 2, 1) := by decide +kernel
theorem dL_put_24 : decode cL_put 24 = .ok (.ireturn, 1) := by decide +kernel
theorem dL_put_25 : decode cL_put 25 = .ok (.iconst 0, 1) := by decide +kernel
theorem dL_put_26 : decode cL_put 26 = .ok (.ireturn, 1) := by decide +kernel
set_option maxRecDepth 20000 in
theorem ghL_go_X3_go_h : GoodIn wsL_go ([.code yX3_go cX3_go 5 (some .int)] : List Cond) := goodIn_r _ [6] rfl (by decide +kernel)
set_option maxRecDepth 20000 in
theorem ghL_go_X3_go_wsX3_go_r1 : GoodIn wsL_go wsX3_go_r1 := goodIn_r _ [7, 8, 9, 10, 11, 12, 5, 13, 14, 15, 16, 17, 18, 19, 20, 21, 22, 23, 24, 25, 26, 27, 28, 29] rfl (by decide +kernel)
set_option maxRecDepth 20000 in
theorem ghL_go_X3_go_wsX3_go_r2 : GoodIn wsL_go wsX3_go_r2 := goodIn_r _ [30, 31, 32, 33, 34, 35, 36, 37, 38, 39, 40, 41, 42, 43, 44, 45, 46, 47, 48, 49, 50, 51, 52, 53] rfl (by decide +kernel)
set_option maxRecDepth 20000 in
theorem ghL_go_X3_go_wsX3_go_r3 : GoodIn wsL_go wsX3_go_r3 := goodIn_r _ [54, 55, 56, 57, 58, 59, 60, 61, 62, 63, 64, 65, 66, 67, 68, 69, 70, 71, 72, 73, 74, 75, 76, 77] rfl (by decide +kernel)
set_option maxRecDepth 20000 in
theorem ghL_go_X3_go_wsX3_go_r4 : GoodIn wsL_go wsX3_go_r4 := goodIn_r _ [78, 79, 80, 81, 82, 83, 84, 85, 86, 87, 88, 89, 90, 91, 92, 93, 94, 95, 96, 97, 98, 99, 100, 101] rfl (by decide +kernel)
set_option maxRecDepth 20000 in
theorem ghL_go_X3_go_wsX3_go_r5 : GoodIn wsL_go wsX3_go_r5 := goodIn_r _ [102, 103, 104, 105, 106, 107, 108, 109, 110, 111, 112, 113, 114, 115, 116, 117, 118, 119, 120, 121, 122, 123, 124, 125] rfl (by decide +kernel)
set_option maxRecDepth 20000 in
theorem ghL_go_X3_go_wsX3_go_r6 : GoodIn wsL_go wsX3_go_r6 := goodIn_r _ [126, 127, 128, 129, 130, 131, 132, 133, 134, 135, 136, 137, 138, 139, 140, 141, 142, 143, 144, 145, 146, 147, 148, 149] rfl (by decide +kernel)
set_option maxRecDepth 20000 in
theorem ghL_go_X3_go_wsX3_go_r7 : GoodIn wsL_go wsX3_go_r7 := goodIn_r _ [150, 151, 152, 153, 154, 155, 156, 157, 158, 159, 160, 161, 162, 163, 164, 165, 166, 167, 168, 169, 170, 171, 172, 173] rfl (by decide +kernel)
set_option maxRecDepth 20000 in
theorem ghL_go_X3_go_wsX3_go_r8 : GoodIn wsL_go wsX3_go_r8 := goodIn_r _ [174, 175, 176, 177, 178, 179, 180, 181, 182, 183, 184, 185, 186, 187, 188, 189, 190, 191, 192, 193, 194, 195, 196, 197] rfl (by decide +kernel)
set_option maxRecDepth 20000 in
theorem ghL_go_X3_go_wsX3_go_r9 : GoodIn wsL_go wsX3_go_r9 := goodIn_r _ [198, 199, 200, 201, 202, 203, 204, 205, 206, 207, 208, 209, 210, 211, 212, 213, 214, 215, 216, 217, 218, 219, 220, 221] rfl (by decide +kernel)
set_option maxRecDepth 20000 in
theorem ghL_go_X3_go_wsX3_go_r10 : GoodIn wsL_go wsX3_go_r10 := goodIn_r _ [222, 223, 224, 225, 226, 227, 228] rfl (by decide +kernel)
set_option maxRecDepth 20000 in
theorem ghL_go_X3_go_wsX30 : GoodIn wsL_go wsX30 := goodIn_r _ [229, 230, 231, 232, 233, 234, 235, 236, 237, 238, 239, 240] rfl (by decide +kernel)
set_option maxRecDepth 20000 in
theorem ghL_go_X3_go_wsX00 : GoodIn wsL_go wsX00 := goodIn_r _ [241] rfl (by decide +kernel)
theorem ggL_go_X3_go : GoodIn wsL_go wsX3_go := goodIn_ca (goodIn_app (a := [.code yX3_go cX3_go 5 (some .int)]) ghL_go_X3_go_h (goodIn_app (goodIn_app (goodIn_app ghL_go_X3_go_wsX3_go_r1 (goodIn_app ghL_go_X3_go_wsX3_go_r2 (goodIn_app ghL_go_X3_go_wsX3_go_r3 (goodIn_app ghL_go_X3_go_wsX3_go_r4 (goodIn_app ghL_go_X3_go_wsX3_go_r5 (goodIn_app ghL_go_X3_go_wsX3_go_r6 (goodIn_app ghL_go_X3_go_wsX3_go_r7 (goodIn_app ghL_go_X3_go_wsX3_go_r8 (goodIn_app ghL_go_X3_go_wsX3_go_r9 ghL_go_X3_go_wsX3_go_r10))))))))) ghL_go_X3_go_wsX30) ghL_go_X3_go_wsX00)) (goodIn_sub (fun _ h => List.mem_cons_of_mem _ (List.mem_append_right _ h)) (by decide +kernel))
set_option maxRecDepth 20000 in
theorem gL_go_X3_go : GoodIn wsL_go (wsV RL 35 RX3 yX3_go wsX3_go) := goodIn_app (goodIn_of _ (by decide +kernel)) ggL_go_X3_go
theorem dL_go_0 : decode cL_go 0 = .ok (.aload_n 3, 1) := by decide +kernel
theorem dL_go_1 : decode cL_go 1 = .ok (.iconst 0, 1) := by decide +kernel
theorem dL_go_2 : decode cL_go 2 = .ok (.aload_n 0, 1) := by decide +kernel
theorem dL_go_3 : decode cL_go 3 = .ok (.iload_n 1, 1) := by decide +kernel
theorem dL_go_4 : decode cL_go 4 = .ok (.iload_n 2, 1) := by decide +kernel
theorem dL_go_5 : decode cL_go 5 = .ok (.invokevirtual 35, 3) := by decide +kernel
theorem dL_go_8 : decode cL_go 8 = .ok (.i2l, 1) := by decide +kernel
theorem dL_go_9 : decode cL_go 9 = .ok (.lastore, 1) := by decide +kernel
theorem dL_go_10 : decode cL_go 10 = .ok (.goto 7, 3) := by decide +kernel
theorem dL_go_13 : decode cL_go 13 = .ok (.astore 4, 2) := by decide +kernel
theorem dL_go_15 : decode cL_go 15 = .ok (.iconst 1, 1) := by decide +kernel
theorem dL_go_16 : decode cL_go 16 = .ok (.ireturn, 1) := by decide +kernel
theorem dL_go_17 : decode cL_go 17 = .ok (.iconst 0, 1) := by decide +kernel
theorem dL_go_18 : decode cL_go 18 = .ok (.ireturn, 1) := by decide +kernel
set_option maxRecDepth 20000 in
theorem ggL_tally_X3_tally : GoodIn wsL_tally wsX3_tally := goodIn_ca (goodIn_r _ [6, 7, 8, 9, 10, 11, 12, 13, 14, 15, 16, 17, 18, 19, 20, 21] rfl (by decide +kernel)) (goodIn_sub (fun _ h => List.mem_cons_of_mem _ (List.mem_append_right _ h)) (by decide +kernel))
set_option maxRecDepth 20000 in
theorem gL_tally_X3_tally : GoodIn wsL_tally (wsV RL 41 RX3 yX3_tally wsX3_tally) := goodIn_app (goodIn_of _ (by decide +kernel)) ggL_tally_X3_tally
theorem dL_tally_0 : decode cL_tally 0 = .ok (.aload_n 2, 1) := by decide +kernel
theorem dL_tally_1 : decode cL_tally 1 = .ok (.iconst 0, 1) := by decide +kernel
theorem dL_tally_2 : decode cL_tally 2 = .ok (.aload_n 0, 1) := by decide +kernel
theorem dL_tally_3 : decode cL_tally 3 = .ok (.iload_n 1, 1) := by decide +kernel
theorem dL_tally_4 : decode cL_tally 4 = .ok (.invokevirtual 41, 3) := by decide +kernel
theorem dL_tally_7 : decode cL_tally 7 = .ok (.lastore, 1) := by decide +kernel
theorem dL_tally_8 : decode cL_tally 8 = .ok (.goto 6, 3) := by decide +kernel
theorem dL_tally_11 : decode cL_tally 11 = .ok (.astore_n 3, 1) := by decide +kernel
theorem dL_tally_12 : decode cL_tally 12 = .ok (.iconst 1, 1) := by decide +kernel
theorem dL_tally_13 : decode cL_tally 13 = .ok (.ireturn, 1) := by decide +kernel
theorem dL_tally_14 : decode cL_tally 14 = .ok (.iconst 0, 1) := by decide +kernel
theorem dL_tally_15 : decode cL_tally 15 = .ok (.ireturn, 1) := by decide +kernel
set_option maxRecDepth 20000 in
theorem ggL_spend_X3_spend : GoodIn wsL_spend wsX3_spend := goodIn_ca (goodIn_r _ [6, 7, 8, 9, 10, 11, 12, 13, 14, 15, 16, 17, 18, 19, 20, 21] rfl (by decide +kernel)) (goodIn_sub (fun _ h => List.mem_cons_of_mem _ (List.mem_append_right _ h)) (by decide +kernel))
set_option maxRecDepth 20000 in
theorem gL_spend_X3_spend : GoodIn wsL_spend (wsV RL 44 RX3 yX3_spend wsX3_spend) := goodIn_app (goodIn_of _ (by decide +kernel)) ggL_spend_X3_spend
theorem dL_spend_0 : decode cL_spend 0 = .ok (.aload_n 2, 1) := by decide +kernel
theorem dL_spend_1 : decode cL_spend 1 = .ok (.iconst 0, 1) := by decide +kernel
theorem dL_spend_2 : decode cL_spend 2 = .ok (.aload_n 0, 1) := by decide +kernel
theorem dL_spend_3 : decode cL_spend 3 = .ok (.iload_n 1, 1) := by decide +kernel
theorem dL_spend_4 : decode cL_spend 4 = .ok (.invokevirtual 44, 3) := by decide +kernel
theorem dL_spend_7 : decode cL_spend 7 = .ok (.lastore, 1) := by decide +kernel
theorem dL_spend_8 : decode cL_spend 8 = .ok (.goto 6, 3) := by decide +kernel
theorem dL_spend_11 : decode cL_spend 11 = .ok (.astore_n 3, 1) := by decide +kernel
theorem dL_spend_12 : decode cL_spend 12 = .ok (.iconst 1, 1) := by decide +kernel
theorem dL_spend_13 : decode cL_spend 13 = .ok (.ireturn, 1) := by decide +kernel
theorem dL_spend_14 : decode cL_spend 14 = .ok (.iconst 0, 1) := by decide +kernel
theorem dL_spend_15 : decode cL_spend 15 = .ok (.ireturn, 1) := by decide +kernel
set_option maxRecDepth 20000 in
theorem ggL_output_X3_output : GoodIn wsL_output wsX3_output := goodIn_ca (goodIn_r _ [6, 7, 8, 9, 10, 11, 12, 13, 14, 15, 16, 17, 18, 19, 20, 21, 22] rfl (by decide +kernel)) (goodIn_sub (fun _ h => List.mem_cons_of_mem _ (List.mem_append_right _ h)) (by decide +kernel))
set_option maxRecDepth 20000 in
theorem gL_output_X3_output : GoodIn wsL_output (wsV RL 47 RX3 yX3_output wsX3_output) := goodIn_app (goodIn_of _ (by decide +kernel)) ggL_output_X3_output
theorem dL_output_0 : decode cL_output 0 = .ok (.aload_n 2, 1) := by decide +kernel
theorem dL_output_1 : decode cL_output 1 = .ok (.iconst 0, 1) := by decide +kernel
theorem dL_output_2 : decode cL_output 2 = .ok (.aload_n 0, 1) := by decide +kernel
theorem dL_output_3 : decode cL_output 3 = .ok (.iload_n 1, 1) := by decide +kernel
theorem dL_output_4 : decode cL_output 4 = .ok (.invokevirtual 47, 3) := by decide +kernel
theorem dL_output_7 : decode cL_output 7 = .ok (.i2l, 1) := by decide +kernel
theorem dL_output_8 : decode cL_output 8 = .ok (.lastore, 1) := by decide +kernel
theorem dL_output_9 : decode cL_output 9 = .ok (.goto 6, 3) := by decide +kernel
theorem dL_output_12 : decode cL_output 12 = .ok (.astore_n 3, 1) := by decide +kernel
theorem dL_output_13 : decode cL_output 13 = .ok (.iconst 1, 1) := by decide +kernel
theorem dL_output_14 : decode cL_output 14 = .ok (.ireturn, 1) := by decide +kernel
theorem dL_output_15 : decode cL_output 15 = .ok (.iconst 0, 1) := by decide +kernel
theorem dL_output_16 : decode cL_output 16 = .ok (.ireturn, 1) := by decide +kernel
set_option maxRecDepth 20000 in
theorem ggL_law_X3_init : GoodIn wsL_law wsX3_init := goodIn_r _ [10, 11, 12, 13, 6, 14, 15, 16, 17, 18, 19, 20, 21, 22, 23, 24, 25, 26, 712, 713, 714, 715, 716, 717, 718, 719, 720, 721, 722, 723, 741] rfl (by decide +kernel)
set_option maxRecDepth 20000 in
theorem gL_law_X3_init : GoodIn wsL_law (wsX3_init) := ggL_law_X3_init
set_option maxRecDepth 20000 in
theorem ghL_law_X4_init_h : GoodIn wsL_law ([.code yX4_init cX4_init 1 none] : List Cond) := goodIn_r _ [29] rfl (by decide +kernel)
set_option maxRecDepth 20000 in
theorem ghL_law_X4_init_wsX4_init_r1 : GoodIn wsL_law wsX4_init_r1 := goodIn_r _ [30, 12, 13, 6, 31, 32, 33, 17, 34, 35, 36, 37, 38, 39, 40, 41, 5, 42, 43, 44, 45, 46, 47, 48] rfl (by decide +kernel)
set_option maxRecDepth 20000 in
theorem ghL_law_X4_init_wsX4_init_r2 : GoodIn wsL_law wsX4_init_r2 := goodIn_r _ [49, 50, 51, 52, 53, 54, 55, 56, 57, 58, 59, 60, 61, 62, 63, 64, 65, 66, 67, 68, 69, 70, 71, 72] rfl (by decide +kernel)
set_option maxRecDepth 20000 in
theorem ghL_law_X4_init_wsX4_init_r3 : GoodIn wsL_law wsX4_init_r3 := goodIn_r _ [73, 74, 75, 76, 77, 78, 79, 80, 81, 82, 83, 84, 85, 86, 87, 88, 89, 90, 91, 92, 93, 94, 95, 96] rfl (by decide +kernel)
set_option maxRecDepth 20000 in
theorem ghL_law_X4_init_wsX4_init_r4 : GoodIn wsL_law wsX4_init_r4 := goodIn_r _ [97, 98, 99, 100, 101, 102, 103, 104, 105, 106, 107, 108, 109, 110, 111, 112, 113, 114, 115, 116, 117, 118, 119, 120] rfl (by decide +kernel)
set_option maxRecDepth 20000 in
theorem ghL_law_X4_init_wsX4_init_r5 : GoodIn wsL_law wsX4_init_r5 := goodIn_r _ [121, 122, 123, 124, 125, 126, 127, 128, 129, 130, 131, 132, 133, 134, 135, 136, 137, 138, 139, 140, 141, 142, 143, 144] rfl (by decide +kernel)
set_option maxRecDepth 20000 in
theorem ghL_law_X4_init_wsX4_init_r6 : GoodIn wsL_law wsX4_init_r6 := goodIn_r _ [145, 146, 147, 148, 149, 150, 151, 152, 153, 154, 155, 156, 157, 158, 159, 160] rfl (by decide +kernel)
set_option maxRecDepth 20000 in
theorem ghL_law_X4_init_wsX40 : GoodIn wsL_law wsX40 := goodIn_r _ [724, 725, 726, 727, 728, 729, 730, 731, 732, 733, 734, 735, 736, 737, 738, 739, 740] rfl (by decide +kernel)
theorem ggL_law_X4_init : GoodIn wsL_law wsX4_init := (goodIn_app (a := [.code yX4_init cX4_init 1 none]) ghL_law_X4_init_h (goodIn_app (goodIn_app ghL_law_X4_init_wsX4_init_r1 (goodIn_app ghL_law_X4_init_wsX4_init_r2 (goodIn_app ghL_law_X4_init_wsX4_init_r3 (goodIn_app ghL_law_X4_init_wsX4_init_r4 (goodIn_app ghL_law_X4_init_wsX4_init_r5 ghL_law_X4_init_wsX4_init_r6))))) ghL_law_X4_init_wsX40))
set_option maxRecDepth 20000 in
theorem gL_law_X4_init : GoodIn wsL_law (wsX4_init) := ggL_law_X4_init
set_option maxRecDepth 20000 in
theorem ggL_law_L_set : GoodIn wsL_law wsL_set := goodIn_ca (goodIn_r _ [164, 165, 166, 167, 168, 2, 169, 170, 171, 14, 712, 713, 714, 715, 716, 717, 718, 719, 720, 721, 722, 723] rfl (by decide +kernel)) (goodIn_sub (fun _ h => List.mem_append_left _ (List.mem_append_left _ (List.mem_append_right _ h))) (by decide +kernel))
set_option maxRecDepth 20000 in
theorem gL_law_L_set : GoodIn wsL_law (va_wsS RL 56 yL_set wsL_set) := goodIn_app (goodIn_of _ (by decide +kernel)) ggL_law_L_set
set_option maxRecDepth 20000 in
theorem ggL_law_X4_set : GoodIn wsL_law wsX4_set := goodIn_r _ [175, 176, 31, 177, 178, 179, 5, 180, 724, 725, 726, 727, 728, 729, 730, 731, 732, 733, 734, 735, 736, 737, 738, 739, 740] rfl (by decide +kernel)
set_option maxRecDepth 20000 in
theorem gL_law_X4_set : GoodIn wsL_law (wsV RL 61 RX4 yX4_set wsX4_set) := goodIn_app (goodIn_of _ (by decide +kernel)) ggL_law_X4_set
set_option maxRecDepth 20000 in
theorem ggL_law_X4_thrown : GoodIn wsL_law wsX4_thrown := goodIn_r _ [184, 176, 724, 725, 726, 727, 728, 729, 730, 731, 732, 733, 734, 735, 736, 737, 738, 739, 740] rfl (by decide +kernel)
set_option maxRecDepth 20000 in
theorem gL_law_X4_thrown : GoodIn wsL_law (wsV RL 62 RX4 yX4_thrown wsX4_thrown) := goodIn_app (goodIn_of _ (by decide +kernel)) ggL_law_X4_thrown
set_option maxRecDepth 20000 in
theorem ggL_law_L_get : GoodIn wsL_law wsL_get := goodIn_ca (goodIn_r _ [187, 165, 188, 189, 190, 2, 191, 170, 171, 14, 15, 712, 713, 714, 715, 716, 717, 718, 719, 720, 721, 722, 723] rfl (by decide +kernel)) (goodIn_sub (fun _ h => List.mem_append_left _ (List.mem_append_left _ (List.mem_append_right _ h))) (by decide +kernel))
set_option maxRecDepth 20000 in
theorem gL_law_L_get : GoodIn wsL_law (va_wsS RL 66 yL_get wsL_get) := goodIn_app (goodIn_of _ (by decide +kernel)) ggL_law_L_get
set_option maxRecDepth 20000 in
theorem ggL_law_X4_get : GoodIn wsL_law wsX4_get := goodIn_r _ [195, 176, 31, 32, 177, 178, 179, 5, 180, 724, 725, 726, 727, 728, 729, 730, 731, 732, 733, 734, 735, 736, 737, 738, 739, 740] rfl (by decide +kernel)
set_option maxRecDepth 20000 in
theorem gL_law_X4_get : GoodIn wsL_law (wsV RL 69 RX4 yX4_get wsX4_get) := goodIn_app (goodIn_of _ (by decide +kernel)) ggL_law_X4_get
set_option maxRecDepth 20000 in
theorem ggL_law_L_poke : GoodIn wsL_law wsL_poke := goodIn_ca (goodIn_r _ [198, 199, 200, 201, 202, 2, 203, 204, 205, 22, 206, 207, 208, 209, 210, 21, 211, 212, 26, 213, 214, 215, 216, 217, 218, 219, 220, 221, 222, 223, 224, 225, 712, 713, 714, 715, 716, 717, 718, 719, 720, 721, 722, 723, 741] rfl (by decide +kernel)) (goodIn_sub (fun _ h => List.mem_append_left _ (List.mem_append_right _ h)) (by decide +kernel))
set_option maxRecDepth 20000 in
theorem gL_law_L_poke : GoodIn wsL_law (va_wsS RL 70 yL_poke wsL_poke) := goodIn_app (goodIn_of _ (by decide +kernel)) ggL_law_L_poke
set_option maxRecDepth 20000 in
theorem ggL_law_X4_poke : GoodIn wsL_law wsX4_poke := goodIn_r _ [229, 176, 230, 231, 5, 232, 233, 177, 178, 179, 180, 234, 235, 236, 237, 34, 238, 239, 240, 241, 724, 725, 726, 727, 728, 729, 730, 731, 732, 733, 734, 735, 736, 737, 738, 739, 740] rfl (by decide +kernel)
set_option maxRecDepth 20000 in
theorem gL_law_X4_poke : GoodIn wsL_law (wsV RL 72 RX4 yX4_poke wsX4_poke) := goodIn_app (goodIn_of _ (by decide +kernel)) ggL_law_X4_poke
set_option maxRecDepth 20000 in
theorem ggL_law_L_peek : GoodIn wsL_law wsL_peek := goodIn_ca (goodIn_r _ [244, 199, 245, 246, 247, 2, 248, 204, 205, 22, 206, 207, 208, 209, 210, 21, 211, 212, 26, 213, 214, 215, 216, 217, 218, 219, 220, 221, 222, 712, 713, 714, 715, 716, 717, 718, 719, 720, 721, 722, 723, 741] rfl (by decide +kernel)) (goodIn_sub (fun _ h => List.mem_append_left _ (List.mem_append_right _ h)) (by decide +kernel))
set_option maxRecDepth 20000 in
theorem gL_law_L_peek : GoodIn wsL_law (va_wsS RL 73 yL_peek wsL_peek) := goodIn_app (goodIn_of _ (by decide +kernel)) ggL_law_L_peek
set_option maxRecDepth 20000 in
theorem ggL_law_X4_peek : GoodIn wsL_law wsX4_peek := goodIn_r _ [252, 176, 230, 231, 5, 232, 233, 177, 178, 179, 180, 234, 235, 236, 237, 34, 724, 725, 726, 727, 728, 729, 730, 731, 732, 733, 734, 735, 736, 737, 738, 739, 740] rfl (by decide +kernel)
set_option maxRecDepth 20000 in
theorem gL_law_X4_peek : GoodIn wsL_law (wsV RL 75 RX4 yX4_peek wsX4_peek) := goodIn_app (goodIn_of _ (by decide +kernel)) ggL_law_X4_peek
set_option maxRecDepth 20000 in
theorem ggL_law_L_at : GoodIn wsL_law wsL_at := goodIn_ca (goodIn_r _ [255, 199, 256, 257, 258, 2, 259, 204, 205, 260, 206, 207, 208, 209, 712, 713, 714, 715, 716, 717, 718, 719, 720, 721, 722, 723] rfl (by decide +kernel)) (goodIn_sub (fun _ h => List.mem_append_left _ (List.mem_append_right _ h)) (by decide +kernel))
set_option maxRecDepth 20000 in
theorem gL_law_L_at : GoodIn wsL_law (va_wsS RL 76 yL_at wsL_at) := goodIn_app (goodIn_of _ (by decide +kernel)) ggL_law_L_at
set_option maxRecDepth 20000 in
theorem ggL_law_X4_at : GoodIn wsL_law wsX4_at := goodIn_r _ [264, 176, 265, 230, 231, 5, 232, 233, 177, 178, 179, 180, 724, 725, 726, 727, 728, 729, 730, 731, 732, 733, 734, 735, 736, 737, 738, 739, 740] rfl (by decide +kernel)
set_option maxRecDepth 20000 in
theorem gL_law_X4_at : GoodIn wsL_law (wsV RL 78 RX4 yX4_at wsX4_at) := goodIn_app (goodIn_of _ (by decide +kernel)) ggL_law_X4_at
set_option maxRecDepth 20000 in
theorem ggL_law_L_put : GoodIn wsL_law wsL_put := goodIn_ca (goodIn_ca (goodIn_r _ [268, 165, 269, 270, 271, 2, 272, 170, 171, 204, 205, 260, 22, 273, 274, 275, 276, 277, 278, 279, 280, 281, 282, 283, 284, 285, 286, 287, 288, 289, 290, 291, 292, 293, 294, 295, 296, 297, 298, 299, 300, 301, 302, 303, 304, 305, 306, 307, 308, 309, 310, 311, 312, 313, 314, 315, 316, 317, 318, 319, 320, 321, 322, 323, 324, 325, 326, 327, 328, 329, 330, 331, 332, 333, 334, 335, 336, 337, 338, 339, 340, 341, 342, 343, 344, 345, 206, 207, 208, 209, 223, 21, 224, 225, 26, 222, 216, 217, 218, 213, 214, 215, 219, 220, 221, 712, 713, 714, 715, 716, 717, 718, 719, 720, 721, 722, 723, 741] rfl (by decide +kernel)) (goodIn_sub (fun _ h => List.mem_append_left _ (List.mem_append_left _ (List.mem_append_right _ h))) (by decide +kernel))) (goodIn_sub (fun _ h => List.mem_append_left _ (List.mem_append_right _ h)) (by decide +kernel))
set_option maxRecDepth 20000 in
theorem gL_law_L_put : GoodIn wsL_law (va_wsS RL 79 yL_put wsL_put) := goodIn_app (goodIn_of _ (by decide +kernel)) ggL_law_L_put
set_option maxRecDepth 20000 in
theorem ggL_law_X4_put : GoodIn wsL_law wsX4_put := goodIn_r _ [349, 176, 60, 37, 265, 34, 38, 177, 178, 179, 5, 180, 724, 725, 726, 727, 728, 729, 730, 731, 732, 733, 734, 735, 736, 737, 738, 739, 740] rfl (by decide +kernel)
set_option maxRecDepth 20000 in
theorem gL_law_X4_put : GoodIn wsL_law (wsV RL 82 RX4 yX4_put wsX4_put) := goodIn_app (goodIn_of _ (by decide +kernel)) ggL_law_X4_put
set_option maxRecDepth 20000 in
theorem ghL_law_L_go_h : GoodIn wsL_law ([.codeWith yL_go cL_go 5 (some .int) [(0, 10, 13, 39)]] : List Cond) := goodIn_r _ [352] rfl (by decide +kernel)
set_option maxRecDepth 20000 in
theorem ghL_law_L_go_wsL_go_r1 : GoodIn wsL_law wsL_go_r1 := goodIn_r _ [353, 354, 355, 356, 2, 357, 358, 359, 360, 361, 362, 363, 364, 22, 14, 206, 207, 208, 209, 210, 21, 211, 212, 26] rfl (by decide +kernel)
set_option maxRecDepth 20000 in
theorem ghL_law_L_go_wsL_go_r2 : GoodIn wsL_law wsL_go_r2 := goodIn_r _ [213, 214, 215, 216, 217, 218, 219, 220, 221, 222, 365, 366, 367, 368, 369, 370, 371, 372, 373, 374, 375, 376, 377, 378] rfl (by decide +kernel)
set_option maxRecDepth 20000 in
theorem ghL_law_L_go_wsL_go_r3 : GoodIn wsL_law wsL_go_r3 := goodIn_r _ [379, 380, 381, 382, 383, 384, 385, 386, 387, 388, 389, 390, 391, 392, 393, 394, 395, 396, 397, 398, 399, 16, 400, 401] rfl (by decide +kernel)
set_option maxRecDepth 20000 in
theorem ghL_law_L_go_wsL_go_r4 : GoodIn wsL_law wsL_go_r4 := goodIn_r _ [402, 403, 404, 405, 406, 407, 408, 409, 410, 411, 412, 413, 414, 415, 18, 416, 417, 418, 419, 420, 15, 421, 422, 423] rfl (by decide +kernel)
set_option maxRecDepth 20000 in
theorem ghL_law_L_go_wsL_go_r5 : GoodIn wsL_law wsL_go_r5 := goodIn_r _ [424, 425, 426, 427, 428, 429, 430, 431, 432, 433, 434, 435, 436, 437, 438, 439, 440, 441, 442, 443, 444, 445, 446, 447] rfl (by decide +kernel)
set_option maxRecDepth 20000 in
theorem ghL_law_L_go_wsL_go_r6 : GoodIn wsL_law wsL_go_r6 := goodIn_r _ [448, 449, 450, 451, 452, 453, 454, 455, 456, 457, 458, 459, 460, 461, 462, 463, 464, 465, 466, 467, 468, 469, 470, 471] rfl (by decide +kernel)
set_option maxRecDepth 20000 in
theorem ghL_law_L_go_wsL_go_r7 : GoodIn wsL_law wsL_go_r7 := goodIn_r _ [472, 473, 474, 475, 476, 477, 478, 479, 480, 481, 482, 483, 484, 485, 486, 487, 488, 489, 490, 491, 492, 493, 494, 495] rfl (by decide +kernel)
set_option maxRecDepth 20000 in
theorem ghL_law_L_go_wsL_go_r8 : GoodIn wsL_law wsL_go_r8 := goodIn_r _ [496, 497, 498, 499, 500, 501, 502, 503, 504, 505, 506, 507, 508, 509, 510, 511, 512, 513, 514, 515, 516, 517, 518, 519] rfl (by decide +kernel)
set_option maxRecDepth 20000 in
theorem ghL_law_L_go_wsL_go_r9 : GoodIn wsL_law wsL_go_r9 := goodIn_r _ [520, 521, 223, 224, 225, 522, 523, 524, 525, 526, 527, 528, 529, 530, 531, 532, 533, 534, 535, 536, 537, 538, 539, 540] rfl (by decide +kernel)
set_option maxRecDepth 20000 in
theorem ghL_law_L_go_wsL_go_r10 : GoodIn wsL_law wsL_go_r10 := goodIn_r _ [541, 542, 543, 544, 545, 546, 547, 548, 549, 550, 551, 552] rfl (by decide +kernel)
set_option maxRecDepth 20000 in
theorem ghL_law_L_go_wsX30 : GoodIn wsL_law wsX30 := goodIn_r _ [712, 713, 714, 715, 716, 717, 718, 719, 720, 721, 722, 723] rfl (by decide +kernel)
set_option maxRecDepth 20000 in
theorem ghL_law_L_go_wsX00 : GoodIn wsL_law wsX00 := goodIn_r _ [741] rfl (by decide +kernel)
theorem ggL_law_L_go : GoodIn wsL_law wsL_go := goodIn_ca (goodIn_app (a := [.codeWith yL_go cL_go 5 (some .int) [(0, 10, 13, 39)]]) ghL_law_L_go_h (goodIn_app (goodIn_app (goodIn_app ghL_law_L_go_wsL_go_r1 (goodIn_app ghL_law_L_go_wsL_go_r2 (goodIn_app ghL_law_L_go_wsL_go_r3 (goodIn_app ghL_law_L_go_wsL_go_r4 (goodIn_app ghL_law_L_go_wsL_go_r5 (goodIn_app ghL_law_L_go_wsL_go_r6 (goodIn_app ghL_law_L_go_wsL_go_r7 (goodIn_app ghL_law_L_go_wsL_go_r8 (goodIn_app ghL_law_L_go_wsL_go_r9 ghL_law_L_go_wsL_go_r10))))))))) ghL_law_L_go_wsX30) ghL_law_L_go_wsX00)) (goodIn_sub (fun _ h => List.mem_append_right _ h) (by decide +kernel))
set_option maxRecDepth 20000 in
theorem gL_law_L_go : GoodIn wsL_law (va_wsS RL 83 yL_go wsL_go) := goodIn_app (goodIn_of _ (by decide +kernel)) ggL_law_L_go
set_option maxRecDepth 20000 in
theorem ghL_law_X4_go_h : GoodIn wsL_law ([.code yX4_go cX4_go 5 (some .int)] : List Cond) := goodIn_r _ [556] rfl (by decide +kernel)
set_option maxRecDepth 20000 in
theorem ghL_law_X4_go_wsX4_go_r1 : GoodIn wsL_law wsX4_go_r1 := goodIn_r _ [176, 557, 177, 178, 179, 5, 180, 558, 559, 560, 561, 562, 563, 31, 564, 33, 565, 566, 567, 568, 569, 570, 571, 230] rfl (by decide +kernel)
set_option maxRecDepth 20000 in
theorem ghL_law_X4_go_wsX4_go_r2 : GoodIn wsL_law wsX4_go_r2 := goodIn_r _ [231, 232, 233, 234, 235, 236, 237, 34, 572, 573, 574, 575, 576, 577, 578, 579, 580, 581, 582, 583, 584, 585, 32, 586] rfl (by decide +kernel)
set_option maxRecDepth 20000 in
theorem ghL_law_X4_go_wsX4_go_r3 : GoodIn wsL_law wsX4_go_r3 := goodIn_r _ [587, 588, 589, 590, 591, 592, 593, 594, 595, 35, 596, 597, 598, 599, 600, 601, 602, 603, 604, 605, 606, 607, 608, 609] rfl (by decide +kernel)
set_option maxRecDepth 20000 in
theorem ghL_law_X4_go_wsX4_go_r4 : GoodIn wsL_law wsX4_go_r4 := goodIn_r _ [610, 611, 612, 613, 614, 615, 616, 617, 618, 619, 620, 621, 622, 623, 624, 625, 626, 627, 628, 629, 630, 631, 632, 633] rfl (by decide +kernel)
set_option maxRecDepth 20000 in
theorem ghL_law_X4_go_wsX4_go_r5 : GoodIn wsL_law wsX4_go_r5 := goodIn_r _ [634, 635, 636, 637, 638, 639, 640, 641, 642, 238, 239, 240, 241, 643, 644, 645, 646, 647, 648, 649, 650, 651, 652, 653] rfl (by decide +kernel)
set_option maxRecDepth 20000 in
theorem ghL_law_X4_go_wsX4_go_r6 : GoodIn wsL_law wsX4_go_r6 := goodIn_r _ [654, 655, 656, 657, 658, 659, 660] rfl (by decide +kernel)
set_option maxRecDepth 20000 in
theorem ghL_law_X4_go_wsX40 : GoodIn wsL_law wsX40 := goodIn_r _ [724, 725, 726, 727, 728, 729, 730, 731, 732, 733, 734, 735, 736, 737, 738, 739, 740] rfl (by decide +kernel)
theorem ggL_law_X4_go : GoodIn wsL_law wsX4_go := (goodIn_app (a := [.code yX4_go cX4_go 5 (some .int)]) ghL_law_X4_go_h (goodIn_app (goodIn_app ghL_law_X4_go_wsX4_go_r1 (goodIn_app ghL_law_X4_go_wsX4_go_r2 (goodIn_app ghL_law_X4_go_wsX4_go_r3 (goodIn_app ghL_law_X4_go_wsX4_go_r4 (goodIn_app ghL_law_X4_go_wsX4_go_r5 ghL_law_X4_go_wsX4_go_r6))))) ghL_law_X4_go_wsX40))
set_option maxRecDepth 20000 in
theorem gL_law_X4_go : GoodIn wsL_law (wsV RL 86 RX4 yX4_go wsX4_go) := goodIn_app (goodIn_of _ (by decide +kernel)) ggL_law_X4_go
set_option maxRecDepth 20000 in
theorem ggL_law_X3_mark : GoodIn wsL_law wsX3_mark := goodIn_r _ [664, 14, 665, 712, 713, 714, 715, 716, 717, 718, 719, 720, 721, 722, 723] rfl (by decide +kernel)
set_option maxRecDepth 20000 in
theorem gL_law_X3_mark : GoodIn wsL_law (wsV RL 87 RX3 yX3_mark wsX3_mark) := goodIn_app (goodIn_of _ (by decide +kernel)) ggL_law_X3_mark
set_option maxRecDepth 20000 in
theorem ggL_law_X4_mark : GoodIn wsL_law wsX4_mark := goodIn_r _ [669, 176, 31, 586, 670, 724, 725, 726, 727, 728, 729, 730, 731, 732, 733, 734, 735, 736, 737, 738, 739, 740] rfl (by decide +kernel)
set_option maxRecDepth 20000 in
theorem gL_law_X4_mark : GoodIn wsL_law (wsV RL 91 RX4 yX4_mark wsX4_mark) := goodIn_app (goodIn_of _ (by decide +kernel)) ggL_law_X4_mark
set_option maxRecDepth 20000 in
theorem ggL_law_L_tally : GoodIn wsL_law wsL_tally := goodIn_ca (goodIn_r _ [673, 165, 674, 675, 676, 2, 677, 170, 171, 16, 712, 713, 714, 715, 716, 717, 718, 719, 720, 721, 722, 723] rfl (by decide +kernel)) (goodIn_sub (fun _ h => List.mem_append_left _ (List.mem_append_left _ (List.mem_append_right _ h))) (by decide +kernel))
set_option maxRecDepth 20000 in
theorem gL_law_L_tally : GoodIn wsL_law (va_wsS RL 92 yL_tally wsL_tally) := goodIn_app (goodIn_of _ (by decide +kernel)) ggL_law_L_tally
set_option maxRecDepth 20000 in
theorem ggL_law_X4_tally : GoodIn wsL_law wsX4_tally := goodIn_r _ [681, 176, 33, 177, 178, 179, 5, 180, 724, 725, 726, 727, 728, 729, 730, 731, 732, 733, 734, 735, 736, 737, 738, 739, 740] rfl (by decide +kernel)
set_option maxRecDepth 20000 in
theorem gL_law_X4_tally : GoodIn wsL_law (wsV RL 94 RX4 yX4_tally wsX4_tally) := goodIn_app (goodIn_of _ (by decide +kernel)) ggL_law_X4_tally
set_option maxRecDepth 20000 in
theorem ggL_law_L_spend : GoodIn wsL_law wsL_spend := goodIn_ca (goodIn_r _ [684, 353, 685, 686, 687, 2, 688, 358, 359, 401, 712, 713, 714, 715, 716, 717, 718, 719, 720, 721, 722, 723] rfl (by decide +kernel)) (goodIn_sub (fun _ h => List.mem_append_right _ h) (by decide +kernel))
set_option maxRecDepth 20000 in
theorem gL_law_L_spend : GoodIn wsL_law (va_wsS RL 95 yL_spend wsL_spend) := goodIn_app (goodIn_of _ (by decide +kernel)) ggL_law_L_spend
set_option maxRecDepth 20000 in
theorem ggL_law_X4_spend : GoodIn wsL_law wsX4_spend := goodIn_r _ [692, 176, 566, 177, 178, 179, 5, 180, 724, 725, 726, 727, 728, 729, 730, 731, 732, 733, 734, 735, 736, 737, 738, 739, 740] rfl (by decide +kernel)
set_option maxRecDepth 20000 in
theorem gL_law_X4_spend : GoodIn wsL_law (wsV RL 97 RX4 yX4_spend wsX4_spend) := goodIn_app (goodIn_of _ (by decide +kernel)) ggL_law_X4_spend
set_option maxRecDepth 20000 in
theorem ggL_law_L_output : GoodIn wsL_law wsL_output := goodIn_ca (goodIn_r _ [695, 199, 696, 697, 698, 2, 699, 204, 205, 415, 18, 712, 713, 714, 715, 716, 717, 718, 719, 720, 721, 722, 723] rfl (by decide +kernel)) (goodIn_sub (fun _ h => List.mem_append_left _ (List.mem_append_right _ h)) (by decide +kernel))
set_option maxRecDepth 20000 in
theorem gL_law_L_output : GoodIn wsL_law (va_wsS RL 98 yL_output wsL_output) := goodIn_app (goodIn_of _ (by decide +kernel)) ggL_law_L_output
set_option maxRecDepth 20000 in
theorem ggL_law_X4_output : GoodIn wsL_law wsX4_output := goodIn_r _ [703, 176, 595, 35, 177, 178, 179, 5, 180, 724, 725, 726, 727, 728, 729, 730, 731, 732, 733, 734, 735, 736, 737, 738, 739, 740] rfl (by decide +kernel)
set_option maxRecDepth 20000 in
theorem gL_law_X4_output : GoodIn wsL_law (wsV RL 100 RX4 yX4_output wsX4_output) := goodIn_app (goodIn_of _ (by decide +kernel)) ggL_law_X4_output
set_option maxRecDepth 20000 in
theorem ggL_law_X3_count : GoodIn wsL_law wsX3_count := goodIn_r _ [707, 360, 401, 402, 415, 260, 370, 400, 438, 712, 713, 714, 715, 716, 717, 718, 719, 720, 721, 722, 723] rfl (by decide +kernel)
set_option maxRecDepth 20000 in
theorem gL_law_X3_count : GoodIn wsL_law (wsV RL 101 RX3 yX3_count wsX3_count) := goodIn_app (goodIn_of _ (by decide +kernel)) ggL_law_X3_count
set_option maxRecDepth 20000 in
theorem ggL_law_X4_count : GoodIn wsL_law wsX4_count := goodIn_r _ [711, 176, 557, 566, 639, 595, 265, 563, 565, 589, 724, 725, 726, 727, 728, 729, 730, 731, 732, 733, 734, 735, 736, 737, 738, 739, 740] rfl (by decide +kernel)
set_option maxRecDepth 20000 in
theorem gL_law_X4_count : GoodIn wsL_law (wsV RL 104 RX4 yX4_count wsX4_count) := goodIn_app (goodIn_of _ (by decide +kernel)) ggL_law_X4_count
theorem dL_law_0 : decode cL_law 0 = .ok (.new 8, 3) := by decide +kernel
theorem dL_law_3 : decode cL_law 3 = .ok (.dup, 1) := by decide +kernel
theorem dL_law_4 : decode cL_law 4 = .ok (.invokespecial 50, 3) := by decide +kernel
theorem dL_law_7 : decode cL_law 7 = .ok (.astore_n 1, 1) := by decide +kernel
theorem dL_law_8 : decode cL_law 8 = .ok (.new 51, 3) := by decide +kernel
theorem dL_law_11 : decode cL_law 11 = .ok (.dup, 1) := by decide +kernel
theorem dL_law_12 : decode cL_law 12 = .ok (.invokespecial 53, 3) := by decide +kernel
theorem dL_law_15 : decode cL_law 15 = .ok (.astore_n 2, 1) := by decide +kernel
theorem dL_law_16 : decode cL_law 16 = .ok (.iconst 1, 1) := by decide +kernel
theorem dL_law_17 : decode cL_law 17 = .ok (.newarray .long, 2) := by decide +kernel
theorem dL_law_19 : decode cL_law 19 = .ok (.astore_n 3, 1) := by decide +kernel
theorem dL_law_20 : decode cL_law 20 = .ok (.iconst 0, 1) := by decide +kernel
theorem dL_law_21 : decode cL_law 21 = .ok (.istore 4, 2) := by decide +kernel
theorem dL_law_23 : decode cL_law 23 = .ok (.iload 4, 2) := by decide +kernel
theorem dL_law_25 : decode cL_law 25 = .ok (.aload_n 0, 1) := by decide +kernel
theorem dL_law_26 : decode cL_law 26 = .ok (.arraylength, 1) := by decide +kernel
theorem dL_law_27 : decode cL_law 27 = .ok (.iconst 5, 1) := by decide +kernel
theorem dL_law_28 : decode cL_law 28 = .ok (.isub, 1) := by decide +kernel
theorem dL_law_29 : decode cL_law 29 = .ok (.if_icmp .gt 807, 3) := by decide +kernel
theorem dL_law_32 : decode cL_law 32 = .ok (.aload_n 0, 1) := by decide +kernel
theorem dL_law_33 : decode cL_law 33 = .ok (.iload 4, 2) := by decide +kernel
theorem dL_law_35 : decode cL_law 35 = .ok (.iaload, 1) := by decide +kernel
theorem dL_law_36 : decode cL_law 36 = .ok (.bipush 15, 2) := by decide +kernel
theorem dL_law_38 : decode cL_law 38 = .ok (.iand, 1) := by decide +kernel
theorem dL_law_39 : decode cL_law 39 = .ok (.tableswitch 791 0 11 #[61, 160, 215, 314, 369, 425, 517, 585, 599, 654, 709, 765], 61) := by decide +kernel
theorem dL_law_100 : decode cL_law 100 = .ok (.aload_n 1, 1) := by decide +kernel
theorem dL_law_101 : decode cL_law 101 = .ok (.aload_n 0, 1) := by decide +kernel
theorem dL_law_102 : decode cL_law 102 = .ok (.iload 4, 2) := by decide +kernel
theorem dL_law_104 : decode cL_law 104 = .ok (.iconst 1, 1) := by decide +kernel
theorem dL_law_105 : decode cL_law 105 = .ok (.iadd, 1) := by decide +kernel
theorem dL_law_106 : decode cL_law 106 = .ok (.iaload, 1) := by decide +kernel
theorem dL_law_107 : decode cL_law 107 = .ok (.aload_n 0, 1) := by decide +kernel
theorem dL_law_108 : decode cL_law 108 = .ok (.iload 4, 2) := by decide +kernel
theorem dL_law_110 : decode cL_law 110 = .ok (.iconst 2, 1) := by decide +kernel
theorem dL_law_111 : decode cL_law 111 = .ok (.iadd, 1) := by decide +kernel
theorem dL_law_112 : decode cL_law 112 = .ok (.iaload, 1) := by decide +kernel
theorem dL_law_113 : decode cL_law 113 = .ok (.i2l, 1) := by decide +kernel
theorem dL_law_114 : decode cL_law 114 = .ok (.bipush 32, 2) := by decide +kernel
theorem dL_law_116 : decode cL_law 116 = .ok (.lshl, 1) := by decide +kernel
theorem dL_law_117 : decode cL_law 117 = .ok (.aload_n 0, 1) := by decide +kernel
theorem dL_law_118 : decode cL_law 118 = .ok (.iload 4, 2) := by decide +kernel
theorem dL_law_120 : decode cL_law 120 = .ok (.iconst 3, 1) := by decide +kernel
theorem dL_law_121 : decode cL_law 121 = .ok (.iadd, 1) := by decide +kernel
theorem dL_law_122 : decode cL_law 122 = .ok (.iaload, 1) := by decide +kernel
theorem dL_law_123 : decode cL_law 123 = .ok (.i2l, 1) := by decide +kernel
theorem dL_law_124 : decode cL_law 124 = .ok (.ldc2_w 54, 3) := by decide +kernel
theorem dL_law_127 : decode cL_law 127 = .ok (.land, 1) := by decide +kernel
theorem dL_law_128 : decode cL_law 128 = .ok (.lor, 1) := by decide +kernel
theorem dL_law_129 : decode cL_law 129 = .ok (.aload_n 3, 1) := by decide +kernel
theorem dL_law_130 : decode cL_law 130 = .ok (.invokestatic 56, 3) := by decide +kernel
theorem dL_law_133 : decode cL_law 133 = .ok (.istore 5, 2) := by decide +kernel
theorem dL_law_135 : decode cL_law 135 = .ok (.aload_n 2, 1) := by decide +kernel
theorem dL_law_136 : decode cL_law 136 = .ok (.aload_n 0, 1) := by decide +kernel
theorem dL_law_137 : decode cL_law 137 = .ok (.iload 4, 2) := by decide +kernel
theorem dL_law_139 : decode cL_law 139 = .ok (.iconst 1, 1) := by decide +kernel
theorem dL_law_140 : decode cL_law 140 = .ok (.iadd, 1) := by decide +kernel
theorem dL_law_141 : decode cL_law 141 = .ok (.iaload, 1) := by decide +kernel
theorem dL_law_142 : decode cL_law 142 = .ok (.aload_n 0, 1) := by decide +kernel
theorem dL_law_143 : decode cL_law 143 = .ok (.iload 4, 2) := by decide +kernel
theorem dL_law_145 : decode cL_law 145 = .ok (.iconst 2, 1) := by decide +kernel
theorem dL_law_146 : decode cL_law 146 = .ok (.iadd, 1) := by decide +kernel
theorem dL_law_147 : decode cL_law 147 = .ok (.iaload, 1) := by decide +kernel
theorem dL_law_148 : decode cL_law 148 = .ok (.i2l, 1) := by decide +kernel
theorem dL_law_149 : decode cL_law 149 = .ok (.bipush 32, 2) := by decide +kernel
theorem dL_law_151 : decode cL_law 151 = .ok (.lshl, 1) := by decide +kernel
theorem dL_law_152 : decode cL_law 152 = .ok (.aload_n 0, 1) := by decide +kernel
theorem dL_law_153 : decode cL_law 153 = .ok (.iload 4, 2) := by decide +kernel
theorem dL_law_155 : decode cL_law 155 = .ok (.iconst 3, 1) := by decide +kernel
theorem dL_law_156 : decode cL_law 156 = .ok (.iadd, 1) := by decide +kernel
theorem dL_law_157 : decode cL_law 157 = .ok (.iaload, 1) := by decide +kernel
theorem dL_law_158 : decode cL_law 158 = .ok (.i2l, 1) := by decide +kernel
theorem dL_law_159 : decode cL_law 159 = .ok (.ldc2_w 54, 3) := by decide +kernel
theorem dL_law_162 : decode cL_law 162 = .ok (.land, 1) := by decide +kernel
theorem dL_law_163 : decode cL_law 163 = .ok (.lor, 1) := by decide +kernel
theorem dL_law_164 : decode cL_law 164 = .ok (.invokevirtual 61, 3) := by decide +kernel
theorem dL_law_167 : decode cL_law 167 = .ok (.lstore 6, 2) := by decide +kernel
theorem dL_law_169 : decode cL_law 169 = .ok (.aload_n 2, 1) := by decide +kernel
theorem dL_law_170 : decode cL_law 170 = .ok (.invokevirtual 62, 3) := by decide +kernel
theorem dL_law_173 : decode cL_law 173 = .ok (.iload 5, 2) := by decide +kernel
theorem dL_law_175 : decode cL_law 175 = .ok (.if_icmp .eq 5, 3) := by decide +kernel
theorem dL_law_178 : decode cL_law 178 = .ok (.iconst 0, 1) := by decide +kernel
theorem dL_law_179 : decode cL_law 179 = .ok (.ireturn, 1) := by decide +kernel
theorem dL_law_180 : decode cL_law 180 = .ok (.iload 5, 2) := by decide +kernel
theorem dL_law_182 : decode cL_law 182 = .ok (.ifCond .ne 14, 3) := by decide +kernel
theorem dL_law_185 : decode cL_law 185 = .ok (.aload_n 3, 1) := by decide +kernel
theorem dL_law_186 : decode cL_law 186 = .ok (.iconst 0, 1) := by decide +kernel
theorem dL_law_187 : decode cL_law 187 = .ok (.laload, 1) := by decide +kernel
theorem dL_law_188 : decode cL_law 188 = .ok (.lload 6, 2) := by decide +kernel
theorem dL_law_190 : decode cL_law 190 = .ok (.lcmp, 1) := by decide +kernel
theorem dL_law_191 : decode cL_law 191 = .ok (.ifCond .eq 5, 3) := by decide +kernel
theorem dL_law_194 : decode cL_law 194 = .ok (.iconst 0, 1) := by decide +kernel
theorem dL_law_195 : decode cL_law 195 = .ok (.ireturn, 1) := by decide +kernel
theorem dL_law_196 : decode cL_law 196 = .ok (.goto 634, 3) := by decide +kernel
theorem dL_law_199 : decode cL_law 199 = .ok (.aload_n 1, 1) := by decide +kernel
theorem dL_law_200 : decode cL_law 200 = .ok (.aload_n 0, 1) := by decide +kernel
theorem dL_law_201 : decode cL_law 201 = .ok (.iload 4, 2) := by decide +kernel
theorem dL_law_203 : decode cL_law 203 = .ok (.iconst 1, 1) := by decide +kernel
theorem dL_law_204 : decode cL_law 204 = .ok (.iadd, 1) := by decide +kernel
theorem dL_law_205 : decode cL_law 205 = .ok (.iaload, 1) := by decide +kernel
theorem dL_law_206 : decode cL_law 206 = .ok (.aload_n 3, 1) := by decide +kernel
theorem dL_law_207 : decode cL_law 207 = .ok (.invokestatic 66, 3) := by decide +kernel
theorem dL_law_210 : decode cL_law 210 = .ok (.istore 5, 2) := by decide +kernel
theorem dL_law_212 : decode cL_law 212 = .ok (.aload_n 2, 1) := by decide +kernel
theorem dL_law_213 : decode cL_law 213 = .ok (.aload_n 0, 1) := by decide +kernel
theorem dL_law_214 : decode cL_law 214 = .ok (.iload 4, 2) := by decide +kernel
theorem dL_law_216 : decode cL_law 216 = .ok (.iconst 1, 1) := by decide +kernel
theorem dL_law_217 : decode cL_law 217 = .ok (.iadd, 1) := by decide +kernel
theorem dL_law_218 : decode cL_law 218 = .ok (.iaload, 1) := by decide +kernel
theorem dL_law_219 : decode cL_law 219 = .ok (.invokevirtual 69, 3) := by decide +kernel
theorem dL_law_222 : decode cL_law 222 = .ok (.lstore 6, 2) := by decide +kernel
theorem dL_law_224 : decode cL_law 224 = .ok (.aload_n 2, 1) := by decide +kernel
theorem dL_law_225 : decode cL_law 225 = .ok (.invokevirtual 62, 3) := by decide +kernel
theorem dL_law_228 : decode cL_law 228 = .ok (.iload 5, 2) := by decide +kernel
theorem dL_law_230 : decode cL_law 230 = .ok (.if_icmp .eq 5, 3) := by decide +kernel
theorem dL_law_233 : decode cL_law 233 = .ok (.iconst 0, 1) := by decide +kernel
theorem dL_law_234 : decode cL_law 234 = .ok (.ireturn, 1) := by decide +kernel
theorem dL_law_235 : decode cL_law 235 = .ok (.iload 5, 2) := by decide +kernel
theorem dL_law_237 : decode cL_law 237 = .ok (.ifCond .ne 14, 3) := by decide +kernel
theorem dL_law_240 : decode cL_law 240 = .ok (.aload_n 3, 1) := by decide +kernel
theorem dL_law_241 : decode cL_law 241 = .ok (.iconst 0, 1) := by decide +kernel
theorem dL_law_242 : decode cL_law 242 = .ok (.laload, 1) := by decide +kernel
theorem dL_law_243 : decode cL_law 243 = .ok (.lload 6, 2) := by decide +kernel
theorem dL_law_245 : decode cL_law 245 = .ok (.lcmp, 1) := by decide +kernel
theorem dL_law_246 : decode cL_law 246 = .ok (.ifCond .eq 5, 3) := by decide +kernel
theorem dL_law_249 : decode cL_law 249 = .ok (.iconst 0, 1) := by decide +kernel
theorem dL_law_250 : decode cL_law 250 = .ok (.ireturn, 1) := by decide +kernel
theorem dL_law_251 : decode cL_law 251 = .ok (.goto 579, 3) := by decide +kernel
theorem dL_law_254 : decode cL_law 254 = .ok (.aload_n 1, 1) := by decide +kernel
theorem dL_law_255 : decode cL_law 255 = .ok (.aload_n 0, 1) := by decide +kernel
theorem dL_law_256 : decode cL_law 256 = .ok (.iload 4, 2) := by decide +kernel
theorem dL_law_258 : decode cL_law 258 = .ok (.iconst 1, 1) := by decide +kernel
theorem dL_law_259 : decode cL_law 259 = .ok (.iadd, 1) := by decide +kernel
theorem dL_law_260 : decode cL_law 260 = .ok (.iaload, 1) := by decide +kernel
theorem dL_law_261 : decode cL_law 261 = .ok (.aload_n 0, 1) := by decide +kernel
theorem dL_law_262 : decode cL_law 262 = .ok (.iload 4, 2) := by decide +kernel
theorem dL_law_264 : decode cL_law 264 = .ok (.iconst 2, 1) := by decide +kernel
theorem dL_law_265 : decode cL_law 265 = .ok (.iadd, 1) := by decide +kernel
theorem dL_law_266 : decode cL_law 266 = .ok (.iaload, 1) := by decide +kernel
theorem dL_law_267 : decode cL_law 267 = .ok (.i2l, 1) := by decide +kernel
theorem dL_law_268 : decode cL_law 268 = .ok (.bipush 32, 2) := by decide +kernel
theorem dL_law_270 : decode cL_law 270 = .ok (.lshl, 1) := by decide +kernel
theorem dL_law_271 : decode cL_law 271 = .ok (.aload_n 0, 1) := by decide +kernel
theorem dL_law_272 : decode cL_law 272 = .ok (.iload 4, 2) := by decide +kernel
theorem dL_law_274 : decode cL_law 274 = .ok (.iconst 3, 1) := by decide +kernel
theorem dL_law_275 : decode cL_law 275 = .ok (.iadd, 1) := by decide +kernel
theorem dL_law_276 : decode cL_law 276 = .ok (.iaload, 1) := by decide +kernel
theorem dL_law_277 : decode cL_law 277 = .ok (.i2l, 1) := by decide +kernel
theorem dL_law_278 : decode cL_law 278 = .ok (.ldc2_w 54, 3) := by decide +kernel
theorem dL_law_281 : decode cL_law 281 = .ok (.land, 1) := by decide +kernel
theorem dL_law_282 : decode cL_law 282 = .ok (.lor, 1) := by decide +kernel
theorem dL_law_283 : decode cL_law 283 = .ok (.aload_n 3, 1) := by decide +kernel
theorem dL_law_284 : decode cL_law 284 = .ok (.invokestatic 70, 3) := by decide +kernel
theorem dL_law_287 : decode cL_law 287 = .ok (.istore 5, 2) := by decide +kernel
theorem dL_law_289 : decode cL_law 289 = .ok (.aload_n 2, 1) := by decide +kernel
theorem dL_law_290 : decode cL_law 290 = .ok (.aload_n 0, 1) := by decide +kernel
theorem dL_law_291 : decode cL_law 291 = .ok (.iload 4, 2) := by decide +kernel
theorem dL_law_293 : decode cL_law 293 = .ok (.iconst 1, 1) := by decide +kernel
theorem dL_law_294 : decode cL_law 294 = .ok (.iadd, 1) := by decide +kernel
theorem dL_law_295 : decode cL_law 295 = .ok (.iaload, 1) := by decide +kernel
theorem dL_law_296 : decode cL_law 296 = .ok (.aload_n 0, 1) := by decide +kernel
theorem dL_law_297 : decode cL_law 297 = .ok (.iload 4, 2) := by decide +kernel
theorem dL_law_299 : decode cL_law 299 = .ok (.iconst 2, 1) := by decide +kernel
theorem dL_law_300 : decode cL_law 300 = .ok (.iadd, 1) := by decide +kernel
theorem dL_law_301 : decode cL_law 301 = .ok (.iaload, 1) := by decide +kernel
theorem dL_law_302 : decode cL_law 302 = .ok (.i2l, 1) := by decide +kernel
theorem dL_law_303 : decode cL_law 303 = .ok (.bipush 32, 2) := by decide +kernel
theorem dL_law_305 : decode cL_law 305 = .ok (.lshl, 1) := by decide +kernel
theorem dL_law_306 : decode cL_law 306 = .ok (.aload_n 0, 1) := by decide +kernel
theorem dL_law_307 : decode cL_law 307 = .ok (.iload 4, 2) := by decide +kernel
theorem dL_law_309 : decode cL_law 309 = .ok (.iconst 3, 1) := by decide +kernel
theorem dL_law_310 : decode cL_law 310 = .ok (.iadd, 1) := by decide +kernel
theorem dL_law_311 : decode cL_law 311 = .ok (.iaload, 1) := by decide +kernel
theorem dL_law_312 : decode cL_law 312 = .ok (.i2l, 1) := by decide +kernel
theorem dL_law_313 : decode cL_law 313 = .ok (.ldc2_w 54, 3) := by decide +kernel
theorem dL_law_316 : decode cL_law 316 = .ok (.land, 1) := by decide +kernel
theorem dL_law_317 : decode cL_law 317 = .ok (.lor, 1) := by decide +kernel
theorem dL_law_318 : decode cL_law 318 = .ok (.invokevirtual 72, 3) := by decide +kernel
theorem dL_law_321 : decode cL_law 321 = .ok (.lstore 6, 2) := by decide +kernel
theorem dL_law_323 : decode cL_law 323 = .ok (.aload_n 2, 1) := by decide +kernel
theorem dL_law_324 : decode cL_law 324 = .ok (.invokevirtual 62, 3) := by decide +kernel
theorem dL_law_327 : decode cL_law 327 = .ok (.iload 5, 2) := by decide +kernel
theorem dL_law_329 : decode cL_law 329 = .ok (.if_icmp .eq 5, 3) := by decide +kernel
theorem dL_law_332 : decode cL_law 332 = .ok (.iconst 0, 1) := by decide +kernel
theorem dL_law_333 : decode cL_law 333 = .ok (.ireturn, 1) := by decide +kernel
theorem dL_law_334 : decode cL_law 334 = .ok (.iload 5, 2) := by decide +kernel
theorem dL_law_336 : decode cL_law 336 = .ok (.ifCond .ne 14, 3) := by decide +kernel
theorem dL_law_339 : decode cL_law 339 = .ok (.aload_n 3, 1) := by decide +kernel
theorem dL_law_340 : decode cL_law 340 = .ok (.iconst 0, 1) := by decide +kernel
theorem dL_law_341 : decode cL_law 341 = .ok (.laload, 1) := by decide +kernel
theorem dL_law_342 : decode cL_law 342 = .ok (.lload 6, 2) := by decide +kernel
theorem dL_law_344 : decode cL_law 344 = .ok (.lcmp, 1) := by decide +kernel
theorem dL_law_345 : decode cL_law 345 = .ok (.ifCond .eq 5, 3) := by decide +kernel
theorem dL_law_348 : decode cL_law 348 = .ok (.iconst 0, 1) := by decide +kernel
theorem dL_law_349 : decode cL_law 349 = .ok (.ireturn, 1) := by decide +kernel
theorem dL_law_350 : decode cL_law 350 = .ok (.goto 480, 3) := by decide +kernel
theorem dL_law_353 : decode cL_law 353 = .ok (.aload_n 1, 1) := by decide +kernel
theorem dL_law_354 : decode cL_law 354 = .ok (.aload_n 0, 1) := by decide +kernel
theorem dL_law_355 : decode cL_law 355 = .ok (.iload 4, 2) := by decide +kernel
theorem dL_law_357 : decode cL_law 357 = .ok (.iconst 1, 1) := by decide +kernel
theorem dL_law_358 : decode cL_law 358 = .ok (.iadd, 1) := by decide +kernel
theorem dL_law_359 : decode cL_law 359 = .ok (.iaload, 1) := by decide +kernel
theorem dL_law_360 : decode cL_law 360 = .ok (.aload_n 3, 1) := by decide +kernel
theorem dL_law_361 : decode cL_law 361 = .ok (.invokestatic 73, 3) := by decide +kernel
theorem dL_law_364 : decode cL_law 364 = .ok (.istore 5, 2) := by decide +kernel
theorem dL_law_366 : decode cL_law 366 = .ok (.aload_n 2, 1) := by decide +kernel
theorem dL_law_367 : decode cL_law 367 = .ok (.aload_n 0, 1) := by decide +kernel
theorem dL_law_368 : decode cL_law 368 = .ok (.iload 4, 2) := by decide +kernel
theorem dL_law_370 : decode cL_law 370 = .ok (.iconst 1, 1) := by decide +kernel
theorem dL_law_371 : decode cL_law 371 = .ok (.iadd, 1) := by decide +kernel
theorem dL_law_372 : decode cL_law 372 = .ok (.iaload, 1) := by decide +kernel
theorem dL_law_373 : decode cL_law 373 = .ok (.invokevirtual 75, 3) := by decide +kernel
theorem dL_law_376 : decode cL_law 376 = .ok (.lstore 6, 2) := by decide +kernel
theorem dL_law_378 : decode cL_law 378 = .ok (.aload_n 2, 1) := by decide +kernel
theorem dL_law_379 : decode cL_law 379 = .ok (.invokevirtual 62, 3) := by decide +kernel
theorem dL_law_382 : decode cL_law 382 = .ok (.iload 5, 2) := by decide +kernel
theorem dL_law_384 : decode cL_law 384 = .ok (.if_icmp .eq 5, 3) := by decide +kernel
theorem dL_law_387 : decode cL_law 387 = .ok (.iconst 0, 1) := by decide +kernel
theorem dL_law_388 : decode cL_law 388 = .ok (.ireturn, 1) := by decide +kernel
theorem dL_law_389 : decode cL_law 389 = .ok (.iload 5, 2) := by decide +kernel
theorem dL_law_391 : decode cL_law 391 = .ok (.ifCond .ne 14, 3) := by decide +kernel
theorem dL_law_394 : decode cL_law 394 = .ok (.aload_n 3, 1) := by decide +kernel
theorem dL_law_395 : decode cL_law 395 = .ok (.iconst 0, 1) := by decide +kernel
theorem dL_law_396 : decode cL_law 396 = .ok (.laload, 1) := by decide +kernel
theorem dL_law_397 : decode cL_law 397 = .ok (.lload 6, 2) := by decide +kernel
theorem dL_law_399 : decode cL_law 399 = .ok (.lcmp, 1) := by decide +kernel
theorem dL_law_400 : decode cL_law 400 = .ok (.ifCond .eq 5, 3) := by decide +kernel
theorem dL_law_403 : decode cL_law 403 = .ok (.iconst 0, 1) := by decide +kernel
theorem dL_law_404 : decode cL_law 404 = .ok (.ireturn, 1) := by decide +kernel
theorem dL_law_405 : decode cL_law 405 = .ok (.goto 425, 3) := by decide +kernel
theorem dL_law_408 : decode cL_law 408 = .ok (.aload_n 1, 1) := by decide +kernel
theorem dL_law_409 : decode cL_law 409 = .ok (.aload_n 0, 1) := by decide +kernel
theorem dL_law_410 : decode cL_law 410 = .ok (.iload 4, 2) := by decide +kernel
theorem dL_law_412 : decode cL_law 412 = .ok (.iconst 1, 1) := by decide +kernel
theorem dL_law_413 : decode cL_law 413 = .ok (.iadd, 1) := by decide +kernel
theorem dL_law_414 : decode cL_law 414 = .ok (.iaload, 1) := by decide +kernel
theorem dL_law_415 : decode cL_law 415 = .ok (.aload_n 3, 1) := by decide +kernel
theorem dL_law_416 : decode cL_law 416 = .ok (.invokestatic 76, 3) := by decide +kernel
theorem dL_law_419 : decode cL_law 419 = .ok (.istore 5, 2) := by decide +kernel
theorem dL_law_421 : decode cL_law 421 = .ok (.aload_n 2, 1) := by decide +kernel
theorem dL_law_422 : decode cL_law 422 = .ok (.aload_n 0, 1) := by decide +kernel
theorem dL_law_423 : decode cL_law 423 = .ok (.iload 4, 2) := by decide +kernel
theorem dL_law_425 : decode cL_law 425 = .ok (.iconst 1, 1) := by decide +kernel
theorem dL_law_426 : decode cL_law 426 = .ok (.iadd, 1) := by decide +kernel
theorem dL_law_427 : decode cL_law 427 = .ok (.iaload, 1) := by decide +kernel
theorem dL_law_428 : decode cL_law 428 = .ok (.invokevirtual 78, 3) := by decide +kernel
theorem dL_law_431 : decode cL_law 431 = .ok (.istore 6, 2) := by decide +kernel
theorem dL_law_433 : decode cL_law 433 = .ok (.aload_n 2, 1) := by decide +kernel
theorem dL_law_434 : decode cL_law 434 = .ok (.invokevirtual 62, 3) := by decide +kernel
theorem dL_law_437 : decode cL_law 437 = .ok (.iload 5, 2) := by decide +kernel
theorem dL_law_439 : decode cL_law 439 = .ok (.if_icmp .eq 5, 3) := by decide +kernel
theorem dL_law_442 : decode cL_law 442 = .ok (.iconst 0, 1) := by decide +kernel
theorem dL_law_443 : decode cL_law 443 = .ok (.ireturn, 1) := by decide +kernel
theorem dL_law_444 : decode cL_law 444 = .ok (.iload 5, 2) := by decide +kernel
theorem dL_law_446 : decode cL_law 446 = .ok (.ifCond .ne 15, 3) := by decide +kernel
theorem dL_law_449 : decode cL_law 449 = .ok (.aload_n 3, 1) := by decide +kernel
theorem dL_law_450 : decode cL_law 450 = .ok (.iconst 0, 1) := by decide +kernel
theorem dL_law_451 : decode cL_law 451 = .ok (.laload, 1) := by decide +kernel
theorem dL_law_452 : decode cL_law 452 = .ok (.iload 6, 2) := by decide +kernel
theorem dL_law_454 : decode cL_law 454 = .ok (.i2l, 1) := by decide +kernel
theorem dL_law_455 : decode cL_law 455 = .ok (.lcmp, 1) := by decide +kernel
theorem dL_law_456 : decode cL_law 456 = .ok (.ifCond .eq 5, 3) := by decide +kernel
theorem dL_law_459 : decode cL_law 459 = .ok (.iconst 0, 1) := by decide +kernel
theorem dL_law_460 : decode cL_law 460 = .ok (.ireturn, 1) := by decide +kernel
theorem dL_law_461 : decode cL_law 461 = .ok (.goto 369, 3) := by decide +kernel
theorem dL_law_464 : decode cL_law 464 = .ok (.aload_n 1, 1) := by decide +kernel
theorem dL_law_465 : decode cL_law 465 = .ok (.aload_n 0, 1) := by decide +kernel
theorem dL_law_466 : decode cL_law 466 = .ok (.iload 4, 2) := by decide +kernel
theorem dL_law_468 : decode cL_law 468 = .ok (.iconst 1, 1) := by decide +kernel
theorem dL_law_469 : decode cL_law 469 = .ok (.iadd, 1) := by decide +kernel
theorem dL_law_470 : decode cL_law 470 = .ok (.iaload, 1) := by decide +kernel
theorem dL_law_471 : decode cL_law 471 = .ok (.aload_n 0, 1) := by decide +kernel
theorem dL_law_472 : decode cL_law 472 = .ok (.iload 4, 2) := by decide +kernel
theorem dL_law_474 : decode cL_law 474 = .ok (.iconst 2, 1) := by decide +kernel
theorem dL_law_475 : decode cL_law 475 = .ok (.iadd, 1) := by decide +kernel
theorem dL_law_476 : decode cL_law 476 = .ok (.iaload, 1) := by decide +kernel
theorem dL_law_477 : decode cL_law 477 = .ok (.aload_n 0, 1) := by decide +kernel
theorem dL_law_478 : decode cL_law 478 = .ok (.iload 4, 2) := by decide +kernel
theorem dL_law_480 : decode cL_law 480 = .ok (.iconst 3, 1) := by decide +kernel
theorem dL_law_481 : decode cL_law 481 = .ok (.iadd, 1) := by decide +kernel
theorem dL_law_482 : decode cL_law 482 = .ok (.iaload, 1) := by decide +kernel
theorem dL_law_483 : decode cL_law 483 = .ok (.aload_n 0, 1) := by decide +kernel
theorem dL_law_484 : decode cL_law 484 = .ok (.iload 4, 2) := by decide +kernel
theorem dL_law_486 : decode cL_law 486 = .ok (.iconst 4, 1) := by decide +kernel
theorem dL_law_487 : decode cL_law 487 = .ok (.iadd, 1) := by decide +kernel
theorem dL_law_488 : decode cL_law 488 = .ok (.iaload, 1) := by decide +kernel
theorem dL_law_489 : decode cL_law 489 = .ok (.aload_n 3, 1) := by decide +kernel
theorem dL_law_490 : decode cL_law 490 = .ok (.invokestatic 79, 3) := by decide +kernel
theorem dL_law_493 : decode cL_law 493 = .ok (.istore 5, 2) := by decide +kernel
theorem dL_law_495 : decode cL_law 495 = .ok (.aload_n 2, 1) := by decide +kernel
theorem dL_law_496 : decode cL_law 496 = .ok (.aload_n 0, 1) := by decide +kernel
theorem dL_law_497 : decode cL_law 497 = .ok (.iload 4, 2) := by decide +kernel
theorem dL_law_499 : decode cL_law 499 = .ok (.iconst 1, 1) := by decide +kernel
theorem dL_law_500 : decode cL_law 500 = .ok (.iadd, 1) := by decide +kernel
theorem dL_law_501 : decode cL_law 501 = .ok (.iaload, 1) := by decide +kernel
theorem dL_law_502 : decode cL_law 502 = .ok (.aload_n 0, 1) := by decide +kernel
theorem dL_law_503 : decode cL_law 503 = .ok (.iload 4, 2) := by decide +kernel
theorem dL_law_505 : decode cL_law 505 = .ok (.iconst 2, 1) := by decide +kernel
theorem dL_law_506 : decode cL_law 506 = .ok (.iadd, 1) := by decide +kernel
theorem dL_law_507 : decode cL_law 507 = .ok (.iaload, 1) := by decide +kernel
theorem dL_law_508 : decode cL_law 508 = .ok (.aload_n 0, 1) := by decide +kernel
theorem dL_law_509 : decode cL_law 509 = .ok (.iload 4, 2) := by decide +kernel
theorem dL_law_511 : decode cL_law 511 = .ok (.iconst 3, 1) := by decide +kernel
theorem dL_law_512 : decode cL_law 512 = .ok (.iadd, 1) := by decide +kernel
theorem dL_law_513 : decode cL_law 513 = .ok (.iaload, 1) := by decide +kernel
theorem dL_law_514 : decode cL_law 514 = .ok (.aload_n 0, 1) := by decide +kernel
theorem dL_law_515 : decode cL_law 515 = .ok (.iload 4, 2) := by decide +kernel
theorem dL_law_517 : decode cL_law 517 = .ok (.iconst 4, 1) := by decide +kernel
theorem dL_law_518 : decode cL_law 518 = .ok (.iadd, 1) := by decide +kernel
theorem dL_law_519 : decode cL_law 519 = .ok (.iaload, 1) := by decide +kernel
theorem dL_law_520 : decode cL_law 520 = .ok (.invokevirtual 82, 3) := by decide +kernel
theorem dL_law_523 : decode cL_law 523 = .ok (.istore 6, 2) := by decide +kernel
theorem dL_law_525 : decode cL_law 525 = .ok (.aload_n 2, 1) := by decide +kernel
theorem dL_law_526 : decode cL_law 526 = .ok (.invokevirtual 62, 3) := by decide +kernel
theorem dL_law_529 : decode cL_law 529 = .ok (.iload 5, 2) := by decide +kernel
theorem dL_law_531 : decode cL_law 531 = .ok (.if_icmp .eq 5, 3) := by decide +kernel
theorem dL_law_534 : decode cL_law 534 = .ok (.iconst 0, 1) := by decide +kernel
theorem dL_law_535 : decode cL_law 535 = .ok (.ireturn, 1) := by decide +kernel
theorem dL_law_536 : decode cL_law 536 = .ok (.iload 5, 2) := by decide +kernel
theorem dL_law_538 : decode cL_law 538 = .ok (.ifCond .ne 15, 3) := by decide +kernel
theorem dL_law_541 : decode cL_law 541 = .ok (.aload_n 3, 1) := by decide +kernel
theorem dL_law_542 : decode cL_law 542 = .ok (.iconst 0, 1) := by decide +kernel
theorem dL_law_543 : decode cL_law 543 = .ok (.laload, 1) := by decide +kernel
theorem dL_law_544 : decode cL_law 544 = .ok (.iload 6, 2) := by decide +kernel
theorem dL_law_546 : decode cL_law 546 = .ok (.i2l, 1) := by decide +kernel
theorem dL_law_547 : decode cL_law 547 = .ok (.lcmp, 1) := by decide +kernel
theorem dL_law_548 : decode cL_law 548 = .ok (.ifCond .eq 5, 3) := by decide +kernel
theorem dL_law_551 : decode cL_law 551 = .ok (.iconst 0, 1) := by decide +kernel
theorem dL_law_552 : decode cL_law 552 = .ok (.ireturn, 1) := by decide +kernel
theorem dL_law_553 : decode cL_law 553 = .ok (.goto 277, 3) := by decide +kernel
theorem dL_law_556 : decode cL_law 556 = .ok (.aload_n 1, 1) := by decide +kernel
theorem dL_law_557 : decode cL_law 557 = .ok (.aload_n 0, 1) := by decide +kernel
theorem dL_law_558 : decode cL_law 558 = .ok (.iload 4, 2) := by decide +kernel
theorem dL_law_560 : decode cL_law 560 = .ok (.iconst 1, 1) := by decide +kernel
theorem dL_law_561 : decode cL_law 561 = .ok (.iadd, 1) := by decide +kernel
theorem dL_law_562 : decode cL_law 562 = .ok (.iaload, 1) := by decide +kernel
theorem dL_law_563 : decode cL_law 563 = .ok (.aload_n 0, 1) := by decide +kernel
theorem dL_law_564 : decode cL_law 564 = .ok (.iload 4, 2) := by decide +kernel
theorem dL_law_566 : decode cL_law 566 = .ok (.iconst 2, 1) := by decide +kernel
theorem dL_law_567 : decode cL_law 567 = .ok (.iadd, 1) := by decide +kernel
theorem dL_law_568 : decode cL_law 568 = .ok (.iaload, 1) := by decide +kernel
theorem dL_law_569 : decode cL_law 569 = .ok (.aload_n 3, 1) := by decide +kernel
theorem dL_law_570 : decode cL_law 570 = .ok (.invokestatic 83, 3) := by decide +kernel
theorem dL_law_573 : decode cL_law 573 = .ok (.istore 5, 2) := by decide +kernel
theorem dL_law_575 : decode cL_law 575 = .ok (.aload_n 2, 1) := by decide +kernel
theorem dL_law_576 : decode cL_law 576 = .ok (.aload_n 0, 1) := by decide +kernel
theorem dL_law_577 : decode cL_law 577 = .ok (.iload 4, 2) := by decide +kernel
theorem dL_law_579 : decode cL_law 579 = .ok (.iconst 1, 1) := by decide +kernel
theorem dL_law_580 : decode cL_law 580 = .ok (.iadd, 1) := by decide +kernel
theorem dL_law_581 : decode cL_law 581 = .ok (.iaload, 1) := by decide +kernel
theorem dL_law_582 : decode cL_law 582 = .ok (.aload_n 0, 1) := by decide +kernel
theorem dL_law_583 : decode cL_law 583 = .ok (.iload 4, 2) := by decide +kernel
theorem dL_law_585 : decode cL_law 585 = .ok (.iconst 2, 1) := by decide +kernel
theorem dL_law_586 : decode cL_law 586 = .ok (.iadd, 1) := by decide +kernel
theorem dL_law_587 : decode cL_law 587 = .ok (.iaload, 1) := by decide +kernel
theorem dL_law_588 : decode cL_law 588 = .ok (.invokevirtual 86, 3) := by decide +kernel
theorem dL_law_591 : decode cL_law 591 = .ok (.istore 6, 2) := by decide +kernel
theorem dL_law_593 : decode cL_law 593 = .ok (.aload_n 2, 1) := by decide +kernel
theorem dL_law_594 : decode cL_law 594 = .ok (.invokevirtual 62, 3) := by decide +kernel
theorem dL_law_597 : decode cL_law 597 = .ok (.iload 5, 2) := by decide +kernel
theorem dL_law_599 : decode cL_law 599 = .ok (.if_icmp .eq 5, 3) := by decide +kernel
theorem dL_law_602 : decode cL_law 602 = .ok (.iconst 0, 1) := by decide +kernel
theorem dL_law_603 : decode cL_law 603 = .ok (.ireturn, 1) := by decide +kernel
theorem dL_law_604 : decode cL_law 604 = .ok (.iload 5, 2) := by decide +kernel
theorem dL_law_606 : decode cL_law 606 = .ok (.ifCond .ne 15, 3) := by decide +kernel
theorem dL_law_609 : decode cL_law 609 = .ok (.aload_n 3, 1) := by decide +kernel
theorem dL_law_610 : decode cL_law 610 = .ok (.iconst 0, 1) := by decide +kernel
theorem dL_law_611 : decode cL_law 611 = .ok (.laload, 1) := by decide +kernel
theorem dL_law_612 : decode cL_law 612 = .ok (.iload 6, 2) := by decide +kernel
theorem dL_law_614 : decode cL_law 614 = .ok (.i2l, 1) := by decide +kernel
theorem dL_law_615 : decode cL_law 615 = .ok (.lcmp, 1) := by decide +kernel
theorem dL_law_616 : decode cL_law 616 = .ok (.ifCond .eq 5, 3) := by decide +kernel
theorem dL_law_619 : decode cL_law 619 = .ok (.iconst 0, 1) := by decide +kernel
theorem dL_law_620 : decode cL_law 620 = .ok (.ireturn, 1) := by decide +kernel
theorem dL_law_621 : decode cL_law 621 = .ok (.goto 209, 3) := by decide +kernel
theorem dL_law_624 : decode cL_law 624 = .ok (.aload_n 1, 1) := by decide +kernel
theorem dL_law_625 : decode cL_law 625 = .ok (.invokevirtual 87, 3) := by decide +kernel
theorem dL_law_628 : decode cL_law 628 = .ok (.aload_n 2, 1) := by decide +kernel
theorem dL_law_629 : decode cL_law 629 = .ok (.invokevirtual 91, 3) := by decide +kernel
theorem dL_law_632 : decode cL_law 632 = .ok (.lcmp, 1) := by decide +kernel
theorem dL_law_633 : decode cL_law 633 = .ok (.ifCond .eq 197, 3) := by decide +kernel
theorem dL_law_636 : decode cL_law 636 = .ok (.iconst 0, 1) := by decide +kernel
theorem dL_law_637 : decode cL_law 637 = .ok (.ireturn, 1) := by decide +kernel
theorem dL_law_638 : decode cL_law 638 = .ok (.aload_n 1, 1) := by decide +kernel
theorem dL_law_639 : decode cL_law 639 = .ok (.aload_n 0, 1) := by decide +kernel
theorem dL_law_640 : decode cL_law 640 = .ok (.iload 4, 2) := by decide +kernel
theorem dL_law_642 : decode cL_law 642 = .ok (.iconst 1, 1) := by decide +kernel
theorem dL_law_643 : decode cL_law 643 = .ok (.iadd, 1) := by decide +kernel
theorem dL_law_644 : decode cL_law 644 = .ok (.iaload, 1) := by decide +kernel
theorem dL_law_645 : decode cL_law 645 = .ok (.aload_n 3, 1) := by decide +kernel
theorem dL_law_646 : decode cL_law 646 = .ok (.invokestatic 92, 3) := by decide +kernel
theorem dL_law_649 : decode cL_law 649 = .ok (.istore 5, 2) := by decide +kernel
theorem dL_law_651 : decode cL_law 651 = .ok (.aload_n 2, 1) := by decide +kernel
theorem dL_law_652 : decode cL_law 652 = .ok (.aload_n 0, 1) := by decide +kernel
theorem dL_law_653 : decode cL_law 653 = .ok (.iload 4, 2) := by decide +kernel
theorem dL_law_655 : decode cL_law 655 = .ok (.iconst 1, 1) := by decide +kernel
theorem dL_law_656 : decode cL_law 656 = .ok (.iadd, 1) := by decide +kernel
theorem dL_law_657 : decode cL_law 657 = .ok (.iaload, 1) := by decide +kernel
end
section
theorem dL_law_658 : decode cL_law 658 = .ok (.invokevirtual 94, 3) := by decide +kernel
theorem dL_law_661 : decode cL_law 661 = .ok (.lstore 6, 2) := by decide +kernel
theorem dL_law_663 : decode cL_law 663 = .ok (.aload_n 2, 1) := by decide +kernel
theorem dL_law_664 : decode cL_law 664 = .ok (.invokevirtual 62, 3) := by decide +kernel
theorem dL_law_667 : decode cL_law 667 = .ok (.iload 5, 2) := by decide +kernel
theorem dL_law_669 : decode cL_law 669 = .ok (.if_icmp .eq 5, 3) := by decide +kernel
theorem dL_law_672 : decode cL_law 672 = .ok (.iconst 0, 1) := by decide +kernel
theorem dL_law_673 : decode cL_law 673 = .ok (.ireturn, 1) := by decide +kernel
theorem dL_law_674 : decode cL_law 674 = .ok (.iload 5, 2) := by decide +kernel
theorem dL_law_676 : decode cL_law 676 = .ok (.ifCond .ne 14, 3) := by decide +kernel
theorem dL_law_679 : decode cL_law 679 = .ok (.aload_n 3, 1) := by decide +kernel
theorem dL_law_680 : decode cL_law 680 = .ok (.iconst 0, 1) := by decide +kernel
theorem dL_law_681 : decode cL_law 681 = .ok (.laload, 1) := by decide +kernel
theorem dL_law_682 : decode cL_law 682 = .ok (.lload 6, 2) := by decide +kernel
theorem dL_law_684 : decode cL_law 684 = .ok (.lcmp, 1) := by decide +kernel
theorem dL_law_685 : decode cL_law 685 = .ok (.ifCond .eq 5, 3) := by decide +kernel
theorem dL_law_688 : decode cL_law 688 = .ok (.iconst 0, 1) := by decide +kernel
theorem dL_law_689 : decode cL_law 689 = .ok (.ireturn, 1) := by decide +kernel
theorem dL_law_690 : decode cL_law 690 = .ok (.goto 140, 3) := by decide +kernel
theorem dL_law_693 : decode cL_law 693 = .ok (.aload_n 1, 1) := by decide +kernel
theorem dL_law_694 : decode cL_law 694 = .ok (.aload_n 0, 1) := by decide +kernel
theorem dL_law_695 : decode cL_law 695 = .ok (.iload 4, 2) := by decide +kernel
theorem dL_law_697 : decode cL_law 697 = .ok (.iconst 1, 1) := by decide +kernel
theorem dL_law_698 : decode cL_law 698 = .ok (.iadd, 1) := by decide +kernel
theorem dL_law_699 : decode cL_law 699 = .ok (.iaload, 1) := by decide +kernel
theorem dL_law_700 : decode cL_law 700 = .ok (.aload_n 3, 1) := by decide +kernel
theorem dL_law_701 : decode cL_law 701 = .ok (.invokestatic 95, 3) := by decide +kernel
theorem dL_law_704 : decode cL_law 704 = .ok (.istore 5, 2) := by decide +kernel
theorem dL_law_706 : decode cL_law 706 = .ok (.aload_n 2, 1) := by decide +kernel
theorem dL_law_707 : decode cL_law 707 = .ok (.aload_n 0, 1) := by decide +kernel
theorem dL_law_708 : decode cL_law 708 = .ok (.iload 4, 2) := by decide +kernel
theorem dL_law_710 : decode cL_law 710 = .ok (.iconst 1, 1) := by decide +kernel
theorem dL_law_711 : decode cL_law 711 = .ok (.iadd, 1) := by decide +kernel
theorem dL_law_712 : decode cL_law 712 = .ok (.iaload, 1) := by decide +kernel
theorem dL_law_713 : decode cL_law 713 = .ok (.invokevirtual 97, 3) := by decide +kernel
theorem dL_law_716 : decode cL_law 716 = .ok (.lstore 6, 2) := by decide +kernel
theorem dL_law_718 : decode cL_law 718 = .ok (.aload_n 2, 1) := by decide +kernel
theorem dL_law_719 : decode cL_law 719 = .ok (.invokevirtual 62, 3) := by decide +kernel
theorem dL_law_722 : decode cL_law 722 = .ok (.iload 5, 2) := by decide +kernel
theorem dL_law_724 : decode cL_law 724 = .ok (.if_icmp .eq 5, 3) := by decide +kernel
theorem dL_law_727 : decode cL_law 727 = .ok (.iconst 0, 1) := by decide +kernel
theorem dL_law_728 : decode cL_law 728 = .ok (.ireturn, 1) := by decide +kernel
theorem dL_law_729 : decode cL_law 729 = .ok (.iload 5, 2) := by decide +kernel
theorem dL_law_731 : decode cL_law 731 = .ok (.ifCond .ne 14, 3) := by decide +kernel
theorem dL_law_734 : decode cL_law 734 = .ok (.aload_n 3, 1) := by decide +kernel
theorem dL_law_735 : decode cL_law 735 = .ok (.iconst 0, 1) := by decide +kernel
theorem dL_law_736 : decode cL_law 736 = .ok (.laload, 1) := by decide +kernel
theorem dL_law_737 : decode cL_law 737 = .ok (.lload 6, 2) := by decide +kernel
theorem dL_law_739 : decode cL_law 739 = .ok (.lcmp, 1) := by decide +kernel
theorem dL_law_740 : decode cL_law 740 = .ok (.ifCond .eq 5, 3) := by decide +kernel
theorem dL_law_743 : decode cL_law 743 = .ok (.iconst 0, 1) := by decide +kernel
theorem dL_law_744 : decode cL_law 744 = .ok (.ireturn, 1) := by decide +kernel
theorem dL_law_745 : decode cL_law 745 = .ok (.goto 85, 3) := by decide +kernel
theorem dL_law_748 : decode cL_law 748 = .ok (.aload_n 1, 1) := by decide +kernel
theorem dL_law_749 : decode cL_law 749 = .ok (.aload_n 0, 1) := by decide +kernel
theorem dL_law_750 : decode cL_law 750 = .ok (.iload 4, 2) := by decide +kernel
theorem dL_law_752 : decode cL_law 752 = .ok (.iconst 1, 1) := by decide +kernel
theorem dL_law_753 : decode cL_law 753 = .ok (.iadd, 1) := by decide +kernel
theorem dL_law_754 : decode cL_law 754 = .ok (.iaload, 1) := by decide +kernel
theorem dL_law_755 : decode cL_law 755 = .ok (.aload_n 3, 1) := by decide +kernel
theorem dL_law_756 : decode cL_law 756 = .ok (.invokestatic 98, 3) := by decide +kernel
theorem dL_law_759 : decode cL_law 759 = .ok (.istore 5, 2) := by decide +kernel
theorem dL_law_761 : decode cL_law 761 = .ok (.aload_n 2, 1) := by decide +kernel
theorem dL_law_762 : decode cL_law 762 = .ok (.aload_n 0, 1) := by decide +kernel
theorem dL_law_763 : decode cL_law 763 = .ok (.iload 4, 2) := by decide +kernel
theorem dL_law_765 : decode cL_law 765 = .ok (.iconst 1, 1) := by decide +kernel
theorem dL_law_766 : decode cL_law 766 = .ok (.iadd, 1) := by decide +kernel
theorem dL_law_767 : decode cL_law 767 = .ok (.iaload, 1) := by decide +kernel
theorem dL_law_768 : decode cL_law 768 = .ok (.invokevirtual 100, 3) := by decide +kernel
theorem dL_law_771 : decode cL_law 771 = .ok (.istore 6, 2) := by decide +kernel
theorem dL_law_773 : decode cL_law 773 = .ok (.aload_n 2, 1) := by decide +kernel
theorem dL_law_774 : decode cL_law 774 = .ok (.invokevirtual 62, 3) := by decide +kernel
theorem dL_law_777 : decode cL_law 777 = .ok (.iload 5, 2) := by decide +kernel
theorem dL_law_779 : decode cL_law 779 = .ok (.if_icmp .eq 5, 3) := by decide +kernel
theorem dL_law_782 : decode cL_law 782 = .ok (.iconst 0, 1) := by decide +kernel
theorem dL_law_783 : decode cL_law 783 = .ok (.ireturn, 1) := by decide +kernel
theorem dL_law_784 : decode cL_law 784 = .ok (.iload 5, 2) := by decide +kernel
theorem dL_law_786 : decode cL_law 786 = .ok (.ifCond .ne 15, 3) := by decide +kernel
theorem dL_law_789 : decode cL_law 789 = .ok (.aload_n 3, 1) := by decide +kernel
theorem dL_law_790 : decode cL_law 790 = .ok (.iconst 0, 1) := by decide +kernel
theorem dL_law_791 : decode cL_law 791 = .ok (.laload, 1) := by decide +kernel
theorem dL_law_792 : decode cL_law 792 = .ok (.iload 6, 2) := by decide +kernel
theorem dL_law_794 : decode cL_law 794 = .ok (.i2l, 1) := by decide +kernel
theorem dL_law_795 : decode cL_law 795 = .ok (.lcmp, 1) := by decide +kernel
theorem dL_law_796 : decode cL_law 796 = .ok (.ifCond .eq 5, 3) := by decide +kernel
theorem dL_law_799 : decode cL_law 799 = .ok (.iconst 0, 1) := by decide +kernel
theorem dL_law_800 : decode cL_law 800 = .ok (.ireturn, 1) := by decide +kernel
theorem dL_law_801 : decode cL_law 801 = .ok (.goto 29, 3) := by decide +kernel
theorem dL_law_804 : decode cL_law 804 = .ok (.aload_n 1, 1) := by decide +kernel
theorem dL_law_805 : decode cL_law 805 = .ok (.aload_n 0, 1) := by decide +kernel
theorem dL_law_806 : decode cL_law 806 = .ok (.iload 4, 2) := by decide +kernel
theorem dL_law_808 : decode cL_law 808 = .ok (.iconst 1, 1) := by decide +kernel
theorem dL_law_809 : decode cL_law 809 = .ok (.iadd, 1) := by decide +kernel
theorem dL_law_810 : decode cL_law 810 = .ok (.iaload, 1) := by decide +kernel
theorem dL_law_811 : decode cL_law 811 = .ok (.invokevirtual 101, 3) := by decide +kernel
theorem dL_law_814 : decode cL_law 814 = .ok (.aload_n 2, 1) := by decide +kernel
theorem dL_law_815 : decode cL_law 815 = .ok (.aload_n 0, 1) := by decide +kernel
theorem dL_law_816 : decode cL_law 816 = .ok (.iload 4, 2) := by decide +kernel
theorem dL_law_818 : decode cL_law 818 = .ok (.iconst 1, 1) := by decide +kernel
theorem dL_law_819 : decode cL_law 819 = .ok (.iadd, 1) := by decide +kernel
theorem dL_law_820 : decode cL_law 820 = .ok (.iaload, 1) := by decide +kernel
theorem dL_law_821 : decode cL_law 821 = .ok (.invokevirtual 104, 3) := by decide +kernel
theorem dL_law_824 : decode cL_law 824 = .ok (.lcmp, 1) := by decide +kernel
theorem dL_law_825 : decode cL_law 825 = .ok (.ifCond .eq 5, 3) := by decide +kernel
theorem dL_law_828 : decode cL_law 828 = .ok (.iconst 0, 1) := by decide +kernel
theorem dL_law_829 : decode cL_law 829 = .ok (.ireturn, 1) := by decide +kernel
theorem dL_law_830 : decode cL_law 830 = .ok (.iinc 4 5, 3) := by decide +kernel
theorem dL_law_833 : decode cL_law 833 = .ok (.goto (-810), 3) := by decide +kernel
theorem dL_law_836 : decode cL_law 836 = .ok (.iconst 1, 1) := by decide +kernel
theorem dL_law_837 : decode cL_law 837 = .ok (.ireturn, 1) := by decide +kernel
abbrev vwCl : List vw_C := [(RX0, TX0, 1), (RX3, TX3, 12), (RX4, TX4, 17)]
end
section
theorem zz_last : True := trivial
end
