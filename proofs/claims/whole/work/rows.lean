section
-- ===== PART A: goes FIRST, ahead of the names: the tables' words, and 'selects' of the private methods out of them =====
/-- a private method of a class that the tables say can be made, by its rows of tables_1 -/
def lw_okq (q : MethodName × Nat) : Prop := (q.1.cls ≠ "java/lang/invoke/MethodHandle" ∧ q.1.cls ≠ "java/lang/invoke/VarHandle") ∧ Cond.instantiable q.1.cls q.2 ∈ tables_1 ∧ Cond.privateMethod q.1 ∈ tables_1 ∧ Cond.instanceMethod q.1 ∈ tables_1
theorem lw_p0 : lw_okq (⟨"HiddenRuns$History", "dropOldest", "()V"⟩, 2) := ⟨⟨by decide +kernel, by decide +kernel⟩, List.mem_of_getElem? (i := 92) (by decide +kernel), List.mem_of_getElem? (i := 235) (by decide +kernel), List.mem_of_getElem? (i := 236) (by decide +kernel)⟩
theorem lw_p1 : lw_okq (⟨"HiddenRuns$Model", "addInto", "(II)V"⟩, 6) := ⟨⟨by decide +kernel, by decide +kernel⟩, List.mem_of_getElem? (i := 23) (by decide +kernel), List.mem_of_getElem? (i := 282) (by decide +kernel), List.mem_of_getElem? (i := 283) (by decide +kernel)⟩
theorem lw_p2 : lw_okq (⟨"HiddenRuns$Sums", "aheadOf", "(II)J"⟩, 6) := ⟨⟨by decide +kernel, by decide +kernel⟩, List.mem_of_getElem? (i := 64) (by decide +kernel), List.mem_of_getElem? (i := 354) (by decide +kernel), List.mem_of_getElem? (i := 355) (by decide +kernel)⟩
theorem lw_p3 : lw_okq (⟨"HiddenRuns$Sums", "behindOf", "(II)J"⟩, 6) := ⟨⟨by decide +kernel, by decide +kernel⟩, List.mem_of_getElem? (i := 64) (by decide +kernel), List.mem_of_getElem? (i := 375) (by decide +kernel), List.mem_of_getElem? (i := 376) (by decide +kernel)⟩
theorem lw_p4 : lw_okq (⟨"HiddenRuns$Sums", "stepBehind", "(III)J"⟩, 6) := ⟨⟨by decide +kernel, by decide +kernel⟩, List.mem_of_getElem? (i := 64) (by decide +kernel), List.mem_of_getElem? (i := 379) (by decide +kernel), List.mem_of_getElem? (i := 380) (by decide +kernel)⟩
theorem lw_p5 : lw_okq (⟨"HiddenRuns$Learner", "countSample", "()V"⟩, 4) := ⟨⟨by decide +kernel, by decide +kernel⟩, List.mem_of_getElem? (i := 162) (by decide +kernel), List.mem_of_getElem? (i := 387) (by decide +kernel), List.mem_of_getElem? (i := 388) (by decide +kernel)⟩
theorem lw_p6 : lw_okq (⟨"HiddenRuns$Learner", "addCount", "(IJ)V"⟩, 4) := ⟨⟨by decide +kernel, by decide +kernel⟩, List.mem_of_getElem? (i := 162) (by decide +kernel), List.mem_of_getElem? (i := 393) (by decide +kernel), List.mem_of_getElem? (i := 394) (by decide +kernel)⟩
theorem lw_p7 : lw_okq (⟨"HiddenRuns$Learner", "makeFamily", "(II)V"⟩, 4) := ⟨⟨by decide +kernel, by decide +kernel⟩, List.mem_of_getElem? (i := 162) (by decide +kernel), List.mem_of_getElem? (i := 411) (by decide +kernel), List.mem_of_getElem? (i := 412) (by decide +kernel)⟩
theorem lw_p8 : lw_okq (⟨"HiddenRuns$Learner", "differs", "()Z"⟩, 4) := ⟨⟨by decide +kernel, by decide +kernel⟩, List.mem_of_getElem? (i := 162) (by decide +kernel), List.mem_of_getElem? (i := 420) (by decide +kernel), List.mem_of_getElem? (i := 421) (by decide +kernel)⟩
theorem lw_p9 : lw_okq (⟨"HiddenRuns$RunOrder", "partsBehind", "(II)I"⟩, 3) := ⟨⟨by decide +kernel, by decide +kernel⟩, List.mem_of_getElem? (i := 145) (by decide +kernel), List.mem_of_getElem? (i := 490) (by decide +kernel), List.mem_of_getElem? (i := 491) (by decide +kernel)⟩
theorem lw_p10 : lw_okq (⟨"HiddenRuns$RunOrder", "entering", "(III)I"⟩, 3) := ⟨⟨by decide +kernel, by decide +kernel⟩, List.mem_of_getElem? (i := 145) (by decide +kernel), List.mem_of_getElem? (i := 494) (by decide +kernel), List.mem_of_getElem? (i := 495) (by decide +kernel)⟩
theorem lw_p11 : lw_okq (⟨"HiddenRuns$BestRun", "nextOf", "(II)I"⟩, 4) := ⟨⟨by decide +kernel, by decide +kernel⟩, List.mem_of_getElem? (i := 124) (by decide +kernel), List.mem_of_getElem? (i := 505) (by decide +kernel), List.mem_of_getElem? (i := 506) (by decide +kernel)⟩
theorem lw_p12 : lw_okq (⟨"HiddenRuns$BestRun", "going", "(III)J"⟩, 4) := ⟨⟨by decide +kernel, by decide +kernel⟩, List.mem_of_getElem? (i := 124) (by decide +kernel), List.mem_of_getElem? (i := 509) (by decide +kernel), List.mem_of_getElem? (i := 510) (by decide +kernel)⟩
theorem lw_p13 : lw_okq (⟨"HiddenRuns$BestRun", "firstOf", "()I"⟩, 4) := ⟨⟨by decide +kernel, by decide +kernel⟩, List.mem_of_getElem? (i := 124) (by decide +kernel), List.mem_of_getElem? (i := 515) (by decide +kernel), List.mem_of_getElem? (i := 516) (by decide +kernel)⟩
theorem lw_p14 : lw_okq (⟨"HiddenRuns$BestRun", "beginning", "(I)J"⟩, 4) := ⟨⟨by decide +kernel, by decide +kernel⟩, List.mem_of_getElem? (i := 124) (by decide +kernel), List.mem_of_getElem? (i := 519) (by decide +kernel), List.mem_of_getElem? (i := 520) (by decide +kernel)⟩
theorem lw_p15 : lw_okq (⟨"HiddenRuns", "allDoubtful", "()I"⟩, 9) := ⟨⟨by decide +kernel, by decide +kernel⟩, List.mem_of_getElem? (i := 15) (by decide +kernel), List.mem_of_getElem? (i := 578) (by decide +kernel), List.mem_of_getElem? (i := 579) (by decide +kernel)⟩
def lw_privs_1 : List (MethodName × Nat) := [(⟨"HiddenRuns$History", "dropOldest", "()V"⟩, 2), (⟨"HiddenRuns$Model", "addInto", "(II)V"⟩, 6), (⟨"HiddenRuns$Sums", "aheadOf", "(II)J"⟩, 6), (⟨"HiddenRuns$Sums", "behindOf", "(II)J"⟩, 6), (⟨"HiddenRuns$Sums", "stepBehind", "(III)J"⟩, 6), (⟨"HiddenRuns$Learner", "countSample", "()V"⟩, 4), (⟨"HiddenRuns$Learner", "addCount", "(IJ)V"⟩, 4), (⟨"HiddenRuns$Learner", "makeFamily", "(II)V"⟩, 4), (⟨"HiddenRuns$Learner", "differs", "()Z"⟩, 4), (⟨"HiddenRuns$RunOrder", "partsBehind", "(II)I"⟩, 3), (⟨"HiddenRuns$RunOrder", "entering", "(III)I"⟩, 3), (⟨"HiddenRuns$BestRun", "nextOf", "(II)I"⟩, 4), (⟨"HiddenRuns$BestRun", "going", "(III)J"⟩, 4), (⟨"HiddenRuns$BestRun", "firstOf", "()I"⟩, 4), (⟨"HiddenRuns$BestRun", "beginning", "(I)J"⟩, 4), (⟨"HiddenRuns", "allDoubtful", "()I"⟩, 9)]
theorem lw_r1 : ∀ q ∈ lw_privs_1, lw_okq q := List.forall_mem_cons.mpr ⟨lw_p0, List.forall_mem_cons.mpr ⟨lw_p1, List.forall_mem_cons.mpr ⟨lw_p2, List.forall_mem_cons.mpr ⟨lw_p3, List.forall_mem_cons.mpr ⟨lw_p4, List.forall_mem_cons.mpr ⟨lw_p5, List.forall_mem_cons.mpr ⟨lw_p6, List.forall_mem_cons.mpr ⟨lw_p7, List.forall_mem_cons.mpr ⟨lw_p8, List.forall_mem_cons.mpr ⟨lw_p9, List.forall_mem_cons.mpr ⟨lw_p10, List.forall_mem_cons.mpr ⟨lw_p11, List.forall_mem_cons.mpr ⟨lw_p12, List.forall_mem_cons.mpr ⟨lw_p13, List.forall_mem_cons.mpr ⟨lw_p14, List.forall_mem_cons.mpr ⟨lw_p15, fun _ h => absurd h List.not_mem_nil⟩⟩⟩⟩⟩⟩⟩⟩⟩⟩⟩⟩⟩⟩⟩⟩
theorem lw_p16 : lw_okq (⟨"HiddenRuns", "samplesWithoutTotal", "()I"⟩, 9) := ⟨⟨by decide +kernel, by decide +kernel⟩, List.mem_of_getElem? (i := 15) (by decide +kernel), List.mem_of_getElem? (i := 588) (by decide +kernel), List.mem_of_getElem? (i := 589) (by decide +kernel)⟩
theorem lw_p17 : lw_okq (⟨"HiddenRuns", "placesOffBest", "()I"⟩, 9) := ⟨⟨by decide +kernel, by decide +kernel⟩, List.mem_of_getElem? (i := 15) (by decide +kernel), List.mem_of_getElem? (i := 592) (by decide +kernel), List.mem_of_getElem? (i := 593) (by decide +kernel)⟩
theorem lw_p18 : lw_okq (⟨"HiddenRuns", "placesOffPath", "(I)I"⟩, 9) := ⟨⟨by decide +kernel, by decide +kernel⟩, List.mem_of_getElem? (i := 15) (by decide +kernel), List.mem_of_getElem? (i := 596) (by decide +kernel), List.mem_of_getElem? (i := 597) (by decide +kernel)⟩
theorem lw_p19 : lw_okq (⟨"HiddenRunsModel", "fills", "(I)V"⟩, 20) := ⟨⟨by decide +kernel, by decide +kernel⟩, List.mem_of_getElem? (i := 600) (by decide +kernel), List.mem_of_getElem? (i := 606) (by decide +kernel), List.mem_of_getElem? (i := 607) (by decide +kernel)⟩
theorem lw_p20 : lw_okq (⟨"HiddenRunsModel", "placeOf", "(III)I"⟩, 20) := ⟨⟨by decide +kernel, by decide +kernel⟩, List.mem_of_getElem? (i := 600) (by decide +kernel), List.mem_of_getElem? (i := 675) (by decide +kernel), List.mem_of_getElem? (i := 676) (by decide +kernel)⟩
theorem lw_p21 : lw_okq (⟨"HiddenRunsModel", "isState", "(I)Z"⟩, 20) := ⟨⟨by decide +kernel, by decide +kernel⟩, List.mem_of_getElem? (i := 600) (by decide +kernel), List.mem_of_getElem? (i := 682) (by decide +kernel), List.mem_of_getElem? (i := 683) (by decide +kernel)⟩
theorem lw_p22 : lw_okq (⟨"HiddenRunsModel", "records", "()V"⟩, 20) := ⟨⟨by decide +kernel, by decide +kernel⟩, List.mem_of_getElem? (i := 600) (by decide +kernel), List.mem_of_getElem? (i := 686) (by decide +kernel), List.mem_of_getElem? (i := 687) (by decide +kernel)⟩
theorem lw_p23 : lw_okq (⟨"HiddenRunsModel", "go", "(II)I"⟩, 20) := ⟨⟨by decide +kernel, by decide +kernel⟩, List.mem_of_getElem? (i := 600) (by decide +kernel), List.mem_of_getElem? (i := 698) (by decide +kernel), List.mem_of_getElem? (i := 699) (by decide +kernel)⟩
theorem lw_p24 : lw_okq (⟨"HiddenRunsModel", "show", "(II)I"⟩, 20) := ⟨⟨by decide +kernel, by decide +kernel⟩, List.mem_of_getElem? (i := 600) (by decide +kernel), List.mem_of_getElem? (i := 702) (by decide +kernel), List.mem_of_getElem? (i := 703) (by decide +kernel)⟩
theorem lw_p25 : lw_okq (⟨"HiddenRunsModel", "drops", "(I)V"⟩, 20) := ⟨⟨by decide +kernel, by decide +kernel⟩, List.mem_of_getElem? (i := 600) (by decide +kernel), List.mem_of_getElem? (i := 713) (by decide +kernel), List.mem_of_getElem? (i := 714) (by decide +kernel)⟩
theorem lw_p26 : lw_okq (⟨"HiddenRunsModel", "clears", "(I)V"⟩, 20) := ⟨⟨by decide +kernel, by decide +kernel⟩, List.mem_of_getElem? (i := 600) (by decide +kernel), List.mem_of_getElem? (i := 717) (by decide +kernel), List.mem_of_getElem? (i := 718) (by decide +kernel)⟩
theorem lw_p27 : lw_okq (⟨"HiddenRunsModel", "reads", "()I"⟩, 20) := ⟨⟨by decide +kernel, by decide +kernel⟩, List.mem_of_getElem? (i := 600) (by decide +kernel), List.mem_of_getElem? (i := 733) (by decide +kernel), List.mem_of_getElem? (i := 734) (by decide +kernel)⟩
theorem lw_p28 : lw_okq (⟨"HiddenRunsModel", "readsSample", "()V"⟩, 20) := ⟨⟨by decide +kernel, by decide +kernel⟩, List.mem_of_getElem? (i := 600) (by decide +kernel), List.mem_of_getElem? (i := 737) (by decide +kernel), List.mem_of_getElem? (i := 738) (by decide +kernel)⟩
theorem lw_p29 : lw_okq (⟨"HiddenRunsModel", "letter", "()I"⟩, 20) := ⟨⟨by decide +kernel, by decide +kernel⟩, List.mem_of_getElem? (i := 600) (by decide +kernel), List.mem_of_getElem? (i := 741) (by decide +kernel), List.mem_of_getElem? (i := 742) (by decide +kernel)⟩
theorem lw_p30 : lw_okq (⟨"HiddenRunsModel", "isSample", "(I)Z"⟩, 20) := ⟨⟨by decide +kernel, by decide +kernel⟩, List.mem_of_getElem? (i := 600) (by decide +kernel), List.mem_of_getElem? (i := 749) (by decide +kernel), List.mem_of_getElem? (i := 750) (by decide +kernel)⟩
theorem lw_p31 : lw_okq (⟨"HiddenRunsModel", "learnsOnce", "()Z"⟩, 20) := ⟨⟨by decide +kernel, by decide +kernel⟩, List.mem_of_getElem? (i := 600) (by decide +kernel), List.mem_of_getElem? (i := 757) (by decide +kernel), List.mem_of_getElem? (i := 758) (by decide +kernel)⟩
def lw_privs_2 : List (MethodName × Nat) := [(⟨"HiddenRuns", "samplesWithoutTotal", "()I"⟩, 9), (⟨"HiddenRuns", "placesOffBest", "()I"⟩, 9), (⟨"HiddenRuns", "placesOffPath", "(I)I"⟩, 9), (⟨"HiddenRunsModel", "fills", "(I)V"⟩, 20), (⟨"HiddenRunsModel", "placeOf", "(III)I"⟩, 20), (⟨"HiddenRunsModel", "isState", "(I)Z"⟩, 20), (⟨"HiddenRunsModel", "records", "()V"⟩, 20), (⟨"HiddenRunsModel", "go", "(II)I"⟩, 20), (⟨"HiddenRunsModel", "show", "(II)I"⟩, 20), (⟨"HiddenRunsModel", "drops", "(I)V"⟩, 20), (⟨"HiddenRunsModel", "clears", "(I)V"⟩, 20), (⟨"HiddenRunsModel", "reads", "()I"⟩, 20), (⟨"HiddenRunsModel", "readsSample", "()V"⟩, 20), (⟨"HiddenRunsModel", "letter", "()I"⟩, 20), (⟨"HiddenRunsModel", "isSample", "(I)Z"⟩, 20), (⟨"HiddenRunsModel", "learnsOnce", "()Z"⟩, 20)]
theorem lw_r2 : ∀ q ∈ lw_privs_2, lw_okq q := List.forall_mem_cons.mpr ⟨lw_p16, List.forall_mem_cons.mpr ⟨lw_p17, List.forall_mem_cons.mpr ⟨lw_p18, List.forall_mem_cons.mpr ⟨lw_p19, List.forall_mem_cons.mpr ⟨lw_p20, List.forall_mem_cons.mpr ⟨lw_p21, List.forall_mem_cons.mpr ⟨lw_p22, List.forall_mem_cons.mpr ⟨lw_p23, List.forall_mem_cons.mpr ⟨lw_p24, List.forall_mem_cons.mpr ⟨lw_p25, List.forall_mem_cons.mpr ⟨lw_p26, List.forall_mem_cons.mpr ⟨lw_p27, List.forall_mem_cons.mpr ⟨lw_p28, List.forall_mem_cons.mpr ⟨lw_p29, List.forall_mem_cons.mpr ⟨lw_p30, List.forall_mem_cons.mpr ⟨lw_p31, fun _ h => absurd h List.not_mem_nil⟩⟩⟩⟩⟩⟩⟩⟩⟩⟩⟩⟩⟩⟩⟩⟩
theorem lw_p32 : lw_okq (⟨"HiddenRunsModel", "laysRuns", "(I)V"⟩, 20) := ⟨⟨by decide +kernel, by decide +kernel⟩, List.mem_of_getElem? (i := 600) (by decide +kernel), List.mem_of_getElem? (i := 761) (by decide +kernel), List.mem_of_getElem? (i := 762) (by decide +kernel)⟩
theorem lw_p33 : lw_okq (⟨"HiddenRunsModel", "placesOf", "(I)I"⟩, 20) := ⟨⟨by decide +kernel, by decide +kernel⟩, List.mem_of_getElem? (i := 600) (by decide +kernel), List.mem_of_getElem? (i := 765) (by decide +kernel), List.mem_of_getElem? (i := 766) (by decide +kernel)⟩
theorem lw_p34 : lw_okq (⟨"HiddenRunsModel", "signAt", "(II)I"⟩, 20) := ⟨⟨by decide +kernel, by decide +kernel⟩, List.mem_of_getElem? (i := 600) (by decide +kernel), List.mem_of_getElem? (i := 769) (by decide +kernel), List.mem_of_getElem? (i := 770) (by decide +kernel)⟩
theorem lw_p35 : lw_okq (⟨"HiddenRunsModel", "laysBehind", "(III)V"⟩, 20) := ⟨⟨by decide +kernel, by decide +kernel⟩, List.mem_of_getElem? (i := 600) (by decide +kernel), List.mem_of_getElem? (i := 773) (by decide +kernel), List.mem_of_getElem? (i := 774) (by decide +kernel)⟩
theorem lw_p36 : lw_okq (⟨"HiddenRunsModel", "step", "(IIII)J"⟩, 20) := ⟨⟨by decide +kernel, by decide +kernel⟩, List.mem_of_getElem? (i := 600) (by decide +kernel), List.mem_of_getElem? (i := 777) (by decide +kernel), List.mem_of_getElem? (i := 778) (by decide +kernel)⟩
theorem lw_p37 : lw_okq (⟨"HiddenRunsModel", "total", "()J"⟩, 20) := ⟨⟨by decide +kernel, by decide +kernel⟩, List.mem_of_getElem? (i := 600) (by decide +kernel), List.mem_of_getElem? (i := 781) (by decide +kernel), List.mem_of_getElem? (i := 782) (by decide +kernel)⟩
theorem lw_p38 : lw_okq (⟨"HiddenRunsModel", "weightAt", "(II)J"⟩, 20) := ⟨⟨by decide +kernel, by decide +kernel⟩, List.mem_of_getElem? (i := 600) (by decide +kernel), List.mem_of_getElem? (i := 785) (by decide +kernel), List.mem_of_getElem? (i := 786) (by decide +kernel)⟩
theorem lw_p39 : lw_okq (⟨"HiddenRunsModel", "counts", "(IJ)V"⟩, 20) := ⟨⟨by decide +kernel, by decide +kernel⟩, List.mem_of_getElem? (i := 600) (by decide +kernel), List.mem_of_getElem? (i := 789) (by decide +kernel), List.mem_of_getElem? (i := 790) (by decide +kernel)⟩
theorem lw_p40 : lw_okq (⟨"HiddenRunsModel", "learnsFamily", "(II)Z"⟩, 20) := ⟨⟨by decide +kernel, by decide +kernel⟩, List.mem_of_getElem? (i := 600) (by decide +kernel), List.mem_of_getElem? (i := 797) (by decide +kernel), List.mem_of_getElem? (i := 798) (by decide +kernel)⟩
theorem lw_p41 : lw_okq (⟨"HiddenRunsModel", "swapsAside", "()V"⟩, 20) := ⟨⟨by decide +kernel, by decide +kernel⟩, List.mem_of_getElem? (i := 600) (by decide +kernel), List.mem_of_getElem? (i := 803) (by decide +kernel), List.mem_of_getElem? (i := 804) (by decide +kernel)⟩
theorem lw_p42 : lw_okq (⟨"HiddenRunsModel", "oddsOf", "(III)I"⟩, 20) := ⟨⟨by decide +kernel, by decide +kernel⟩, List.mem_of_getElem? (i := 600) (by decide +kernel), List.mem_of_getElem? (i := 831) (by decide +kernel), List.mem_of_getElem? (i := 832) (by decide +kernel)⟩
theorem lw_p43 : lw_okq (⟨"HiddenRunsModel", "laysOdds", "(II)V"⟩, 20) := ⟨⟨by decide +kernel, by decide +kernel⟩, List.mem_of_getElem? (i := 600) (by decide +kernel), List.mem_of_getElem? (i := 835) (by decide +kernel), List.mem_of_getElem? (i := 836) (by decide +kernel)⟩
theorem lw_p44 : lw_okq (⟨"HiddenRunsModel", "isPlace", "(II)Z"⟩, 20) := ⟨⟨by decide +kernel, by decide +kernel⟩, List.mem_of_getElem? (i := 600) (by decide +kernel), List.mem_of_getElem? (i := 843) (by decide +kernel), List.mem_of_getElem? (i := 844) (by decide +kernel)⟩
theorem lw_p45 : lw_okq (⟨"HiddenRunsModel", "runsThatCount", "()J"⟩, 20) := ⟨⟨by decide +kernel, by decide +kernel⟩, List.mem_of_getElem? (i := 600) (by decide +kernel), List.mem_of_getElem? (i := 853) (by decide +kernel), List.mem_of_getElem? (i := 854) (by decide +kernel)⟩
theorem lw_p46 : lw_okq (⟨"HiddenRunsModel", "bestWeight", "()J"⟩, 20) := ⟨⟨by decide +kernel, by decide +kernel⟩, List.mem_of_getElem? (i := 600) (by decide +kernel), List.mem_of_getElem? (i := 857) (by decide +kernel), List.mem_of_getElem? (i := 858) (by decide +kernel)⟩
theorem lw_p47 : lw_okq (⟨"HiddenRunsModel", "bestAt", "(II)I"⟩, 20) := ⟨⟨by decide +kernel, by decide +kernel⟩, List.mem_of_getElem? (i := 600) (by decide +kernel), List.mem_of_getElem? (i := 865) (by decide +kernel), List.mem_of_getElem? (i := 866) (by decide +kernel)⟩
def lw_privs_3 : List (MethodName × Nat) := [(⟨"HiddenRunsModel", "laysRuns", "(I)V"⟩, 20), (⟨"HiddenRunsModel", "placesOf", "(I)I"⟩, 20), (⟨"HiddenRunsModel", "signAt", "(II)I"⟩, 20), (⟨"HiddenRunsModel", "laysBehind", "(III)V"⟩, 20), (⟨"HiddenRunsModel", "step", "(IIII)J"⟩, 20), (⟨"HiddenRunsModel", "total", "()J"⟩, 20), (⟨"HiddenRunsModel", "weightAt", "(II)J"⟩, 20), (⟨"HiddenRunsModel", "counts", "(IJ)V"⟩, 20), (⟨"HiddenRunsModel", "learnsFamily", "(II)Z"⟩, 20), (⟨"HiddenRunsModel", "swapsAside", "()V"⟩, 20), (⟨"HiddenRunsModel", "oddsOf", "(III)I"⟩, 20), (⟨"HiddenRunsModel", "laysOdds", "(II)V"⟩, 20), (⟨"HiddenRunsModel", "isPlace", "(II)Z"⟩, 20), (⟨"HiddenRunsModel", "runsThatCount", "()J"⟩, 20), (⟨"HiddenRunsModel", "bestWeight", "()J"⟩, 20), (⟨"HiddenRunsModel", "bestAt", "(II)I"⟩, 20)]
theorem lw_r3 : ∀ q ∈ lw_privs_3, lw_okq q := List.forall_mem_cons.mpr ⟨lw_p32, List.forall_mem_cons.mpr ⟨lw_p33, List.forall_mem_cons.mpr ⟨lw_p34, List.forall_mem_cons.mpr ⟨lw_p35, List.forall_mem_cons.mpr ⟨lw_p36, List.forall_mem_cons.mpr ⟨lw_p37, List.forall_mem_cons.mpr ⟨lw_p38, List.forall_mem_cons.mpr ⟨lw_p39, List.forall_mem_cons.mpr ⟨lw_p40, List.forall_mem_cons.mpr ⟨lw_p41, List.forall_mem_cons.mpr ⟨lw_p42, List.forall_mem_cons.mpr ⟨lw_p43, List.forall_mem_cons.mpr ⟨lw_p44, List.forall_mem_cons.mpr ⟨lw_p45, List.forall_mem_cons.mpr ⟨lw_p46, List.forall_mem_cons.mpr ⟨lw_p47, fun _ h => absurd h List.not_mem_nil⟩⟩⟩⟩⟩⟩⟩⟩⟩⟩⟩⟩⟩⟩⟩⟩
theorem lw_p48 : lw_okq (⟨"HiddenRunsModel", "likeliestAt", "(I)I"⟩, 20) := ⟨⟨by decide +kernel, by decide +kernel⟩, List.mem_of_getElem? (i := 600) (by decide +kernel), List.mem_of_getElem? (i := 877) (by decide +kernel), List.mem_of_getElem? (i := 878) (by decide +kernel)⟩
theorem lw_p49 : lw_okq (⟨"HiddenRunsModel", "doubts", "(I)I"⟩, 20) := ⟨⟨by decide +kernel, by decide +kernel⟩, List.mem_of_getElem? (i := 600) (by decide +kernel), List.mem_of_getElem? (i := 885) (by decide +kernel), List.mem_of_getElem? (i := 886) (by decide +kernel)⟩
theorem lw_p50 : lw_okq (⟨"HiddenRunsModel", "runAt", "(III)I"⟩, 20) := ⟨⟨by decide +kernel, by decide +kernel⟩, List.mem_of_getElem? (i := 600) (by decide +kernel), List.mem_of_getElem? (i := 893) (by decide +kernel), List.mem_of_getElem? (i := 894) (by decide +kernel)⟩
theorem lw_p51 : lw_okq (⟨"HiddenRunsModel", "weightOfNext", "(II)J"⟩, 20) := ⟨⟨by decide +kernel, by decide +kernel⟩, List.mem_of_getElem? (i := 600) (by decide +kernel), List.mem_of_getElem? (i := 901) (by decide +kernel), List.mem_of_getElem? (i := 902) (by decide +kernel)⟩
theorem lw_p52 : lw_okq (⟨"HiddenRunsModel", "signs", "()I"⟩, 20) := ⟨⟨by decide +kernel, by decide +kernel⟩, List.mem_of_getElem? (i := 600) (by decide +kernel), List.mem_of_getElem? (i := 909) (by decide +kernel), List.mem_of_getElem? (i := 910) (by decide +kernel)⟩
theorem lw_p53 : lw_okq (⟨"HiddenRunsModel", "overSamples", "(I)I"⟩, 20) := ⟨⟨by decide +kernel, by decide +kernel⟩, List.mem_of_getElem? (i := 600) (by decide +kernel), List.mem_of_getElem? (i := 913) (by decide +kernel), List.mem_of_getElem? (i := 914) (by decide +kernel)⟩
def lw_privs_4 : List (MethodName × Nat) := [(⟨"HiddenRunsModel", "likeliestAt", "(I)I"⟩, 20), (⟨"HiddenRunsModel", "doubts", "(I)I"⟩, 20), (⟨"HiddenRunsModel", "runAt", "(III)I"⟩, 20), (⟨"HiddenRunsModel", "weightOfNext", "(II)J"⟩, 20), (⟨"HiddenRunsModel", "signs", "()I"⟩, 20), (⟨"HiddenRunsModel", "overSamples", "(I)I"⟩, 20)]
theorem lw_r4 : ∀ q ∈ lw_privs_4, lw_okq q := List.forall_mem_cons.mpr ⟨lw_p48, List.forall_mem_cons.mpr ⟨lw_p49, List.forall_mem_cons.mpr ⟨lw_p50, List.forall_mem_cons.mpr ⟨lw_p51, List.forall_mem_cons.mpr ⟨lw_p52, List.forall_mem_cons.mpr ⟨lw_p53, fun _ h => absurd h List.not_mem_nil⟩⟩⟩⟩⟩⟩
def lw_privs : List (MethodName × Nat) := lw_privs_1 ++ (lw_privs_2 ++ (lw_privs_3 ++ (lw_privs_4)))
def lw_tbl : List Cond := k2_sels lw_privs ++ tables_1
theorem lw_privs_ok : ∀ q ∈ lw_privs, lw_okq q := by
  show ∀ q ∈ lw_privs_1 ++ (lw_privs_2 ++ (lw_privs_3 ++ (lw_privs_4))), lw_okq q
  exact List.forall_mem_append.mpr ⟨lw_r1, List.forall_mem_append.mpr ⟨lw_r2, List.forall_mem_append.mpr ⟨lw_r3, lw_r4⟩⟩⟩
end
section
def RX0 : String := "HiddenRuns$BestRun"
def TX0 : u_T := fun k => match k with
  | 0 => ("HiddenRuns$BestRun", "model", "LHiddenRuns$Model;", true)
  | 1 => ("HiddenRuns$BestRun", "greatest", "[J", true)
  | 2 => ("HiddenRuns$BestRun", "path", "[I", true)
  | _ => ("HiddenRuns$BestRun", "weight", "J", false)
def tyX0 : Nat → FieldType := fun k => match k with
  | 0 => .object "HiddenRuns$Model"
  | 1 => .array .long
  | 2 => .array .int
  | _ => .long
theorem nmX0 : ∀ a, a < 4 → ∀ b, b < 4 → a ≠ b → (TX0 a).2.1 ≠ (TX0 b).2.1 := by decide +kernel
theorem tyX0_ok : ∀ k, k < 4 → parseFieldDescriptor (TX0 k).2.2.1 = some (tyX0 k) := by decide +kernel
abbrev cX0_init : ByteArray := prog_2_method_1_code
def yX0_init : MethodName := ⟨RX0, "<init>", "(LHiddenRuns$Model;)V"⟩
abbrev cX0_read : ByteArray := prog_2_method_2_code
def yX0_read : MethodName := ⟨RX0, "read", "(I)V"⟩
abbrev cX0_beginning : ByteArray := prog_2_method_3_code
def yX0_beginning : MethodName := ⟨RX0, "beginning", "(I)J"⟩
abbrev cX0_going : ByteArray := prog_2_method_4_code
def yX0_going : MethodName := ⟨RX0, "going", "(III)J"⟩
abbrev cX0_firstOf : ByteArray := prog_2_method_5_code
def yX0_firstOf : MethodName := ⟨RX0, "firstOf", "()I"⟩
abbrev cX0_nextOf : ByteArray := prog_2_method_6_code
def yX0_nextOf : MethodName := ⟨RX0, "nextOf", "(II)I"⟩
def RX1 : String := "HiddenRuns$History"
def TX1 : u_T := fun k => match k with
  | 0 => ("HiddenRuns$History", "past", "[LHiddenRuns$Model;", true)
  | _ => ("HiddenRuns$History", "size", "I", false)
def tyX1 : Nat → FieldType := fun k => match k with
  | 0 => .array (.object "HiddenRuns$Model")
  | _ => .int
theorem nmX1 : ∀ a, a < 2 → ∀ b, b < 2 → a ≠ b → (TX1 a).2.1 ≠ (TX1 b).2.1 := by decide +kernel
theorem tyX1_ok : ∀ k, k < 2 → parseFieldDescriptor (TX1 k).2.2.1 = some (tyX1 k) := by decide +kernel
abbrev cX1_init : ByteArray := prog_3_method_1_code
def yX1_init : MethodName := ⟨RX1, "<init>", "()V"⟩
abbrev cX1_record : ByteArray := prog_3_method_2_code
def yX1_record : MethodName := ⟨RX1, "record", "(LHiddenRuns$Model;)V"⟩
abbrev cX1_dropOldest : ByteArray := prog_3_method_3_code
def yX1_dropOldest : MethodName := ⟨RX1, "dropOldest", "()V"⟩
abbrev cX1_takeLatest : ByteArray := prog_3_method_4_code
def yX1_takeLatest : MethodName := ⟨RX1, "takeLatest", "(LHiddenRuns$Model;)V"⟩
def RX2 : String := "HiddenRuns$Learner"
def TX2 : u_T := fun k => match k with
  | 0 => ("HiddenRuns$Learner", "model", "LHiddenRuns$Model;", true)
  | 1 => ("HiddenRuns$Learner", "sums", "LHiddenRuns$Sums;", true)
  | 2 => ("HiddenRuns$Learner", "counts", "[I", true)
  | _ => ("HiddenRuns$Learner", "made", "[I", true)
def tyX2 : Nat → FieldType := fun k => match k with
  | 0 => .object "HiddenRuns$Model"
  | 1 => .object "HiddenRuns$Sums"
  | 2 => .array .int
  | _ => .array .int
theorem nmX2 : ∀ a, a < 4 → ∀ b, b < 4 → a ≠ b → (TX2 a).2.1 ≠ (TX2 b).2.1 := by decide +kernel
theorem tyX2_ok : ∀ k, k < 4 → parseFieldDescriptor (TX2 k).2.2.1 = some (tyX2 k) := by decide +kernel
abbrev cX2_init : ByteArray := prog_4_method_1_code
def yX2_init : MethodName := ⟨RX2, "<init>", "(LHiddenRuns$Model;LHiddenRuns$Sums;)V"⟩
abbrev cX2_prepareRound : ByteArray := prog_4_method_2_code
def yX2_prepareRound : MethodName := ⟨RX2, "prepareRound", "()Z"⟩
abbrev cX2_finishRound : ByteArray := prog_4_method_3_code
def yX2_finishRound : MethodName := ⟨RX2, "finishRound", "()V"⟩
abbrev cX2_countSample : ByteArray := prog_4_method_4_code
def yX2_countSample : MethodName := ⟨RX2, "countSample", "()V"⟩
abbrev cX2_addCount : ByteArray := prog_4_method_5_code
def yX2_addCount : MethodName := ⟨RX2, "addCount", "(IJ)V"⟩
abbrev cX2_makeFamily : ByteArray := prog_4_method_6_code
def yX2_makeFamily : MethodName := ⟨RX2, "makeFamily", "(II)V"⟩
abbrev cX2_differs : ByteArray := prog_4_method_7_code
def yX2_differs : MethodName := ⟨RX2, "differs", "()Z"⟩
def RX3 : String := "HiddenRuns$Model"
def TX3 : u_T := fun k => match k with
  | 0 => ("HiddenRuns$Model", "weights", "[I", true)
  | 1 => ("HiddenRuns$Model", "states", "I", false)
  | 2 => ("HiddenRuns$Model", "bound", "I", false)
  | 3 => ("HiddenRuns$Model", "lengths", "[I", true)
  | 4 => ("HiddenRuns$Model", "signs", "[I", true)
  | _ => ("HiddenRuns$Model", "samples", "I", false)
def tyX3 : Nat → FieldType := fun k => match k with
  | 0 => .array .int
  | 1 => .int
  | 2 => .int
  | 3 => .array .int
  | 4 => .array .int
  | _ => .int
theorem nmX3 : ∀ a, a < 6 → ∀ b, b < 6 → a ≠ b → (TX3 a).2.1 ≠ (TX3 b).2.1 := by decide +kernel
theorem tyX3_ok : ∀ k, k < 6 → parseFieldDescriptor (TX3 k).2.2.1 = some (tyX3 k) := by decide +kernel
abbrev cX3_init : ByteArray := prog_5_method_1_code
def yX3_init : MethodName := ⟨RX3, "<init>", "()V"⟩
abbrev cX3_copyFrom : ByteArray := prog_5_method_2_code
def yX3_copyFrom : MethodName := ⟨RX3, "copyFrom", "(LHiddenRuns$Model;)V"⟩
abbrev cX3_hasState : ByteArray := prog_5_method_3_code
def yX3_hasState : MethodName := ⟨RX3, "hasState", "(I)Z"⟩
abbrev cX3_hasSample : ByteArray := prog_5_method_4_code
def yX3_hasSample : MethodName := ⟨RX3, "hasSample", "(I)Z"⟩
abbrev cX3_hasPlace : ByteArray := prog_5_method_5_code
def yX3_hasPlace : MethodName := ⟨RX3, "hasPlace", "(II)Z"⟩
abbrev cX3_hasWeight : ByteArray := prog_5_method_6_code
def yX3_hasWeight : MethodName := ⟨RX3, "hasWeight", "(III)Z"⟩
abbrev cX3_cellOf : ByteArray := prog_5_method_7_code
def yX3_cellOf : MethodName := ⟨RX3, "cellOf", "(III)I"⟩
abbrev cX3_familySize : ByteArray := prog_5_method_8_code
def yX3_familySize : MethodName := ⟨RX3, "familySize", "(I)I"⟩
abbrev cX3_memberCell : ByteArray := prog_5_method_9_code
def yX3_memberCell : MethodName := ⟨RX3, "memberCell", "(III)I"⟩
abbrev cX3_begin : ByteArray := prog_5_method_10_code
def yX3_begin : MethodName := ⟨RX3, "begin", "(I)I"⟩
abbrev cX3_go : ByteArray := prog_5_method_11_code
def yX3_go : MethodName := ⟨RX3, "go", "(II)I"⟩
abbrev cX3_show : ByteArray := prog_5_method_12_code
def yX3_show : MethodName := ⟨RX3, "show", "(II)I"⟩
abbrev cX3_signAt : ByteArray := prog_5_method_13_code
def yX3_signAt : MethodName := ⟨RX3, "signAt", "(II)I"⟩
abbrev cX3_showAt : ByteArray := prog_5_method_14_code
def yX3_showAt : MethodName := ⟨RX3, "showAt", "(III)I"⟩
abbrev cX3_allSigns : ByteArray := prog_5_method_15_code
def yX3_allSigns : MethodName := ⟨RX3, "allSigns", "()I"⟩
abbrev cX3_oddsOf : ByteArray := prog_5_method_16_code
def yX3_oddsOf : MethodName := ⟨RX3, "oddsOf", "(III)I"⟩
abbrev cX3_appendState : ByteArray := prog_5_method_17_code
def yX3_appendState : MethodName := ⟨RX3, "appendState", "()V"⟩
abbrev cX3_appendTwin : ByteArray := prog_5_method_18_code
def yX3_appendTwin : MethodName := ⟨RX3, "appendTwin", "(I)V"⟩
abbrev cX3_merge : ByteArray := prog_5_method_19_code
def yX3_merge : MethodName := ⟨RX3, "merge", "(II)V"⟩
abbrev cX3_addInto : ByteArray := prog_5_method_20_code
def yX3_addInto : MethodName := ⟨RX3, "addInto", "(II)V"⟩
abbrev cX3_dropState : ByteArray := prog_5_method_21_code
def yX3_dropState : MethodName := ⟨RX3, "dropState", "(I)V"⟩
abbrev cX3_beginSample : ByteArray := prog_5_method_22_code
def yX3_beginSample : MethodName := ⟨RX3, "beginSample", "()V"⟩
abbrev cX3_appendSign : ByteArray := prog_5_method_23_code
def yX3_appendSign : MethodName := ⟨RX3, "appendSign", "(I)V"⟩
abbrev cX3_dropSample : ByteArray := prog_5_method_24_code
def yX3_dropSample : MethodName := ⟨RX3, "dropSample", "(I)V"⟩
def RX4 : String := "HiddenRuns$RunOrder"
def TX4 : u_T := fun k => match k with
  | 0 => ("HiddenRuns$RunOrder", "model", "LHiddenRuns$Model;", true)
  | 1 => ("HiddenRuns$RunOrder", "parts", "[I", true)
  | _ => ("HiddenRuns$RunOrder", "size", "I", false)
def tyX4 : Nat → FieldType := fun k => match k with
  | 0 => .object "HiddenRuns$Model"
  | 1 => .array .int
  | _ => .int
theorem nmX4 : ∀ a, a < 3 → ∀ b, b < 3 → a ≠ b → (TX4 a).2.1 ≠ (TX4 b).2.1 := by decide +kernel
theorem tyX4_ok : ∀ k, k < 3 → parseFieldDescriptor (TX4 k).2.2.1 = some (tyX4 k) := by decide +kernel
abbrev cX4_init : ByteArray := prog_6_method_1_code
def yX4_init : MethodName := ⟨RX4, "<init>", "(LHiddenRuns$Model;)V"⟩
abbrev cX4_read : ByteArray := prog_6_method_2_code
def yX4_read : MethodName := ⟨RX4, "read", "(I)V"⟩
abbrev cX4_partsBehind : ByteArray := prog_6_method_3_code
def yX4_partsBehind : MethodName := ⟨RX4, "partsBehind", "(II)I"⟩
abbrev cX4_entering : ByteArray := prog_6_method_4_code
def yX4_entering : MethodName := ⟨RX4, "entering", "(III)I"⟩
abbrev cX4_stateAt : ByteArray := prog_6_method_5_code
def yX4_stateAt : MethodName := ⟨RX4, "stateAt", "(II)I"⟩
def RX5 : String := "HiddenRuns$SampleText"
def TX5 : u_T := fun k => match k with
  | 0 => ("HiddenRuns$SampleText", "characters", "[C", true)
  | _ => ("HiddenRuns$SampleText", "length", "I", false)
def tyX5 : Nat → FieldType := fun k => match k with
  | 0 => .array .char
  | _ => .int
theorem nmX5 : ∀ a, a < 2 → ∀ b, b < 2 → a ≠ b → (TX5 a).2.1 ≠ (TX5 b).2.1 := by decide +kernel
theorem tyX5_ok : ∀ k, k < 2 → parseFieldDescriptor (TX5 k).2.2.1 = some (tyX5 k) := by decide +kernel
abbrev cX5_init : ByteArray := prog_7_method_1_code
def yX5_init : MethodName := ⟨RX5, "<init>", "()V"⟩
abbrev cX5_append : ByteArray := prog_7_method_2_code
def yX5_append : MethodName := ⟨RX5, "append", "(C)V"⟩
abbrev cX5_empty : ByteArray := prog_7_method_3_code
def yX5_empty : MethodName := ⟨RX5, "empty", "()V"⟩
abbrev cX5_fault : ByteArray := prog_7_method_4_code
def yX5_fault : MethodName := ⟨RX5, "fault", "()I"⟩
abbrev cX5_isLetter : ByteArray := prog_7_method_5_code
def yX5_isLetter : MethodName := ⟨RX5, "isLetter", "(C)Z"⟩
abbrev cX5_samples : ByteArray := prog_7_method_6_code
def yX5_samples : MethodName := ⟨RX5, "samples", "()I"⟩
abbrev cX5_appendTo : ByteArray := prog_7_method_7_code
def yX5_appendTo : MethodName := ⟨RX5, "appendTo", "(LHiddenRuns$Model;)V"⟩
def RX6 : String := "HiddenRuns$Sums"
def TX6 : u_T := fun k => match k with
  | 0 => ("HiddenRuns$Sums", "model", "LHiddenRuns$Model;", true)
  | 1 => ("HiddenRuns$Sums", "sample", "I", false)
  | 2 => ("HiddenRuns$Sums", "places", "I", false)
  | 3 => ("HiddenRuns$Sums", "ahead", "[J", true)
  | 4 => ("HiddenRuns$Sums", "behind", "[J", true)
  | _ => ("HiddenRuns$Sums", "total", "J", false)
def tyX6 : Nat → FieldType := fun k => match k with
  | 0 => .object "HiddenRuns$Model"
  | 1 => .int
  | 2 => .int
  | 3 => .array .long
  | 4 => .array .long
  | _ => .long
theorem nmX6 : ∀ a, a < 6 → ∀ b, b < 6 → a ≠ b → (TX6 a).2.1 ≠ (TX6 b).2.1 := by decide +kernel
theorem tyX6_ok : ∀ k, k < 6 → parseFieldDescriptor (TX6 k).2.2.1 = some (tyX6 k) := by decide +kernel
abbrev cX6_init : ByteArray := prog_8_method_1_code
def yX6_init : MethodName := ⟨RX6, "<init>", "(LHiddenRuns$Model;)V"⟩
abbrev cX6_read : ByteArray := prog_8_method_2_code
def yX6_read : MethodName := ⟨RX6, "read", "(I)V"⟩
abbrev cX6_aheadOf : ByteArray := prog_8_method_3_code
def yX6_aheadOf : MethodName := ⟨RX6, "aheadOf", "(II)J"⟩
abbrev cX6_behindOf : ByteArray := prog_8_method_4_code
def yX6_behindOf : MethodName := ⟨RX6, "behindOf", "(II)J"⟩
abbrev cX6_stepBehind : ByteArray := prog_8_method_5_code
def yX6_stepBehind : MethodName := ⟨RX6, "stepBehind", "(III)J"⟩
abbrev cX6_at : ByteArray := prog_8_method_6_code
def yX6_at : MethodName := ⟨RX6, "at", "(II)J"⟩
abbrev cX6_showing : ByteArray := prog_8_method_7_code
def yX6_showing : MethodName := ⟨RX6, "showing", "(II)J"⟩
abbrev cX6_goingOn : ByteArray := prog_8_method_8_code
def yX6_goingOn : MethodName := ⟨RX6, "goingOn", "(II)J"⟩
abbrev cX6_behindLast : ByteArray := prog_8_method_9_code
def yX6_behindLast : MethodName := ⟨RX6, "behindLast", "(I)J"⟩
abbrev cX6_likeliestAt : ByteArray := prog_8_method_10_code
def yX6_likeliestAt : MethodName := ⟨RX6, "likeliestAt", "(I)I"⟩
abbrev cX6_doubtfulPlaces : ByteArray := prog_8_method_11_code
def yX6_doubtfulPlaces : MethodName := ⟨RX6, "doubtfulPlaces", "()I"⟩
def RX7 : String := "HiddenRuns"
def TX7 : u_T := fun k => match k with
  | 0 => ("HiddenRuns", "now", "LHiddenRuns$Model;", true)
  | 1 => ("HiddenRuns", "snapshot", "LHiddenRuns$Model;", true)
  | 2 => ("HiddenRuns", "hasSnapshot", "Z", false)
  | 3 => ("HiddenRuns", "history", "LHiddenRuns$History;", true)
  | 4 => ("HiddenRuns", "text", "LHiddenRuns$SampleText;", true)
  | 5 => ("HiddenRuns", "sums", "LHiddenRuns$Sums;", true)
  | 6 => ("HiddenRuns", "bestRun", "LHiddenRuns$BestRun;", true)
  | 7 => ("HiddenRuns", "runOrder", "LHiddenRuns$RunOrder;", true)
  | _ => ("HiddenRuns", "learner", "LHiddenRuns$Learner;", true)
def tyX7 : Nat → FieldType := fun k => match k with
  | 0 => .object "HiddenRuns$Model"
  | 1 => .object "HiddenRuns$Model"
  | 2 => .boolean
  | 3 => .object "HiddenRuns$History"
  | 4 => .object "HiddenRuns$SampleText"
  | 5 => .object "HiddenRuns$Sums"
  | 6 => .object "HiddenRuns$BestRun"
  | 7 => .object "HiddenRuns$RunOrder"
  | _ => .object "HiddenRuns$Learner"
theorem nmX7 : ∀ a, a < 9 → ∀ b, b < 9 → a ≠ b → (TX7 a).2.1 ≠ (TX7 b).2.1 := by decide +kernel
theorem tyX7_ok : ∀ k, k < 9 → parseFieldDescriptor (TX7 k).2.2.1 = some (tyX7 k) := by decide +kernel
abbrev cX7_init : ByteArray := prog_1_method_1_code
def yX7_init : MethodName := ⟨RX7, "<init>", "()V"⟩
abbrev cX7_setWeight : ByteArray := prog_1_method_2_code
def yX7_setWeight : MethodName := ⟨RX7, "setWeight", "(IIII)I"⟩
abbrev cX7_addState : ByteArray := prog_1_method_3_code
def yX7_addState : MethodName := ⟨RX7, "addState", "()I"⟩
abbrev cX7_split : ByteArray := prog_1_method_4_code
def yX7_split : MethodName := ⟨RX7, "split", "(I)I"⟩
abbrev cX7_join : ByteArray := prog_1_method_5_code
def yX7_join : MethodName := ⟨RX7, "join", "(II)I"⟩
abbrev cX7_removeState : ByteArray := prog_1_method_6_code
def yX7_removeState : MethodName := ⟨RX7, "removeState", "(I)I"⟩
abbrev cX7_setBound : ByteArray := prog_1_method_7_code
def yX7_setBound : MethodName := ⟨RX7, "setBound", "(I)I"⟩
abbrev cX7_addSamples : ByteArray := prog_1_method_8_code
def yX7_addSamples : MethodName := ⟨RX7, "addSamples", "()I"⟩
abbrev cX7_removeSample : ByteArray := prog_1_method_9_code
def yX7_removeSample : MethodName := ⟨RX7, "removeSample", "(I)I"⟩
abbrev cX7_learn : ByteArray := prog_1_method_10_code
def yX7_learn : MethodName := ⟨RX7, "learn", "(I)I"⟩
abbrev cX7_type : ByteArray := prog_1_method_11_code
def yX7_type : MethodName := ⟨RX7, "type", "(C)I"⟩
abbrev cX7_clearText : ByteArray := prog_1_method_12_code
def yX7_clearText : MethodName := ⟨RX7, "clearText", "()I"⟩
abbrev cX7_undo : ByteArray := prog_1_method_13_code
def yX7_undo : MethodName := ⟨RX7, "undo", "()I"⟩
abbrev cX7_keep : ByteArray := prog_1_method_14_code
def yX7_keep : MethodName := ⟨RX7, "keep", "()I"⟩
abbrev cX7_restore : ByteArray := prog_1_method_15_code
def yX7_restore : MethodName := ⟨RX7, "restore", "()I"⟩
abbrev cX7_weight : ByteArray := prog_1_method_16_code
def yX7_weight : MethodName := ⟨RX7, "weight", "(IIIZ)I"⟩
abbrev cX7_sign : ByteArray := prog_1_method_17_code
def yX7_sign : MethodName := ⟨RX7, "sign", "(II)I"⟩
abbrev cX7_ofSample : ByteArray := prog_1_method_18_code
def yX7_ofSample : MethodName := ⟨RX7, "ofSample", "(II)J"⟩
abbrev cX7_best : ByteArray := prog_1_method_19_code
def yX7_best : MethodName := ⟨RX7, "best", "(II)I"⟩
abbrev cX7_share : ByteArray := prog_1_method_20_code
def yX7_share : MethodName := ⟨RX7, "share", "(III)I"⟩
abbrev cX7_likeliest : ByteArray := prog_1_method_21_code
def yX7_likeliest : MethodName := ⟨RX7, "likeliest", "(II)I"⟩
abbrev cX7_doubtful : ByteArray := prog_1_method_22_code
def yX7_doubtful : MethodName := ⟨RX7, "doubtful", "(I)I"⟩
abbrev cX7_run : ByteArray := prog_1_method_23_code
def yX7_run : MethodName := ⟨RX7, "run", "(III)I"⟩
abbrev cX7_next : ByteArray := prog_1_method_24_code
def yX7_next : MethodName := ⟨RX7, "next", "(II)I"⟩
abbrev cX7_count : ByteArray := prog_1_method_25_code
def yX7_count : MethodName := ⟨RX7, "count", "(I)I"⟩
abbrev cX7_isKind : ByteArray := prog_1_method_26_code
def yX7_isKind : MethodName := ⟨RX7, "isKind", "(I)Z"⟩
abbrev cX7_shareOf : ByteArray := prog_1_method_27_code
def yX7_shareOf : MethodName := ⟨RX7, "shareOf", "(JJ)I"⟩
abbrev cX7_allDoubtful : ByteArray := prog_1_method_28_code
def yX7_allDoubtful : MethodName := ⟨RX7, "allDoubtful", "()I"⟩
abbrev cX7_samplesWithoutTotal : ByteArray := prog_1_method_29_code
def yX7_samplesWithoutTotal : MethodName := ⟨RX7, "samplesWithoutTotal", "()I"⟩
abbrev cX7_placesOffBest : ByteArray := prog_1_method_30_code
def yX7_placesOffBest : MethodName := ⟨RX7, "placesOffBest", "()I"⟩
abbrev cX7_placesOffPath : ByteArray := prog_1_method_31_code
def yX7_placesOffPath : MethodName := ⟨RX7, "placesOffPath", "(I)I"⟩
def RX8 : String := "HiddenRunsModel"
def TX8 : u_T := fun k => match k with
  | 0 => ("HiddenRunsModel", "thrown", "I", false)
  | 1 => ("HiddenRunsModel", "s", "[I", true)
  | 2 => ("HiddenRunsModel", "aside", "[I", true)
  | 3 => ("HiddenRunsModel", "saved", "[I", true)
  | 4 => ("HiddenRunsModel", "savedMany", "I", false)
  | 5 => ("HiddenRunsModel", "snapshot", "[I", true)
  | 6 => ("HiddenRunsModel", "hasSnapshot", "Z", false)
  | 7 => ("HiddenRunsModel", "text", "[I", true)
  | 8 => ("HiddenRunsModel", "length", "I", false)
  | 9 => ("HiddenRunsModel", "up", "[J", true)
  | 10 => ("HiddenRunsModel", "behind", "[J", true)
  | 11 => ("HiddenRunsModel", "greatest", "[J", true)
  | 12 => ("HiddenRunsModel", "many", "[J", true)
  | 13 => ("HiddenRunsModel", "counts", "[J", true)
  | 14 => ("HiddenRunsModel", "rests", "[I", true)
  | 15 => ("HiddenRunsModel", "odds", "[I", true)
  | 16 => ("HiddenRunsModel", "at", "I", false)
  | 17 => ("HiddenRunsModel", "isWell", "Z", false)
  | 18 => ("HiddenRunsModel", "told", "[I", true)
  | _ => ("HiddenRunsModel", "toldMany", "I", false)
def tyX8 : Nat → FieldType := fun k => match k with
  | 0 => .int
  | 1 => .array .int
  | 2 => .array .int
  | 3 => .array .int
  | 4 => .int
  | 5 => .array .int
  | 6 => .boolean
  | 7 => .array .int
  | 8 => .int
  | 9 => .array .long
  | 10 => .array .long
  | 11 => .array .long
  | 12 => .array .long
  | 13 => .array .long
  | 14 => .array .int
  | 15 => .array .int
  | 16 => .int
  | 17 => .boolean
  | 18 => .array .int
  | _ => .int
theorem nmX8 : ∀ a, a < 20 → ∀ b, b < 20 → a ≠ b → (TX8 a).2.1 ≠ (TX8 b).2.1 := by decide +kernel
theorem tyX8_ok : ∀ k, k < 20 → parseFieldDescriptor (TX8 k).2.2.1 = some (tyX8 k) := by decide +kernel
abbrev cX8_init : ByteArray := prog_10_method_1_code
def yX8_init : MethodName := ⟨RX8, "<init>", "()V"⟩
abbrev cX8_in : ByteArray := prog_10_method_3_code
def yX8_in : MethodName := ⟨RX8, "in", "(III)Z"⟩
abbrev cX8_isState : ByteArray := prog_10_method_4_code
def yX8_isState : MethodName := ⟨RX8, "isState", "(I)Z"⟩
abbrev cX8_isSample : ByteArray := prog_10_method_5_code
def yX8_isSample : MethodName := ⟨RX8, "isSample", "(I)Z"⟩
abbrev cX8_go : ByteArray := prog_10_method_6_code
def yX8_go : MethodName := ⟨RX8, "go", "(II)I"⟩
abbrev cX8_show : ByteArray := prog_10_method_7_code
def yX8_show : MethodName := ⟨RX8, "show", "(II)I"⟩
abbrev cX8_placesOf : ByteArray := prog_10_method_8_code
def yX8_placesOf : MethodName := ⟨RX8, "placesOf", "(I)I"⟩
abbrev cX8_signAt : ByteArray := prog_10_method_9_code
def yX8_signAt : MethodName := ⟨RX8, "signAt", "(II)I"⟩
abbrev cX8_fills : ByteArray := prog_10_method_10_code
def yX8_fills : MethodName := ⟨RX8, "fills", "(I)V"⟩
abbrev cX8_records : ByteArray := prog_10_method_11_code
def yX8_records : MethodName := ⟨RX8, "records", "()V"⟩
abbrev cX8_laysRuns : ByteArray := prog_10_method_12_code
def yX8_laysRuns : MethodName := ⟨RX8, "laysRuns", "(I)V"⟩
abbrev cX8_step : ByteArray := prog_10_method_13_code
def yX8_step : MethodName := ⟨RX8, "step", "(IIII)J"⟩
abbrev cX8_laysBehind : ByteArray := prog_10_method_14_code
def yX8_laysBehind : MethodName := ⟨RX8, "laysBehind", "(III)V"⟩
abbrev cX8_weightAt : ByteArray := prog_10_method_15_code
def yX8_weightAt : MethodName := ⟨RX8, "weightAt", "(II)J"⟩
abbrev cX8_total : ByteArray := prog_10_method_16_code
def yX8_total : MethodName := ⟨RX8, "total", "()J"⟩
abbrev cX8_runsThatCount : ByteArray := prog_10_method_17_code
def yX8_runsThatCount : MethodName := ⟨RX8, "runsThatCount", "()J"⟩
abbrev cX8_bestWeight : ByteArray := prog_10_method_18_code
def yX8_bestWeight : MethodName := ⟨RX8, "bestWeight", "()J"⟩
abbrev cX8_shareOf : ByteArray := prog_10_method_19_code
def yX8_shareOf : MethodName := ⟨RX8, "shareOf", "(JJ)I"⟩
abbrev cX8_bestAt : ByteArray := prog_10_method_20_code
def yX8_bestAt : MethodName := ⟨RX8, "bestAt", "(II)I"⟩
abbrev cX8_runAt : ByteArray := prog_10_method_21_code
def yX8_runAt : MethodName := ⟨RX8, "runAt", "(III)I"⟩
abbrev cX8_likeliestAt : ByteArray := prog_10_method_22_code
def yX8_likeliestAt : MethodName := ⟨RX8, "likeliestAt", "(I)I"⟩
abbrev cX8_placeOf : ByteArray := prog_10_method_23_code
def yX8_placeOf : MethodName := ⟨RX8, "placeOf", "(III)I"⟩
abbrev cX8_setWeight : ByteArray := prog_10_method_24_code
def yX8_setWeight : MethodName := ⟨RX8, "setWeight", "(IIII)I"⟩
abbrev cX8_addState : ByteArray := prog_10_method_25_code
def yX8_addState : MethodName := ⟨RX8, "addState", "()I"⟩
abbrev cX8_split : ByteArray := prog_10_method_26_code
def yX8_split : MethodName := ⟨RX8, "split", "(I)I"⟩
abbrev cX8_drops : ByteArray := prog_10_method_27_code
def yX8_drops : MethodName := ⟨RX8, "drops", "(I)V"⟩
abbrev cX8_clears : ByteArray := prog_10_method_28_code
def yX8_clears : MethodName := ⟨RX8, "clears", "(I)V"⟩
abbrev cX8_capped : ByteArray := prog_10_method_29_code
def yX8_capped : MethodName := ⟨RX8, "capped", "(I)I"⟩
abbrev cX8_join : ByteArray := prog_10_method_30_code
def yX8_join : MethodName := ⟨RX8, "join", "(II)I"⟩
abbrev cX8_removeState : ByteArray := prog_10_method_31_code
def yX8_removeState : MethodName := ⟨RX8, "removeState", "(I)I"⟩
abbrev cX8_setBound : ByteArray := prog_10_method_32_code
def yX8_setBound : MethodName := ⟨RX8, "setBound", "(I)I"⟩
abbrev cX8_letter : ByteArray := prog_10_method_33_code
def yX8_letter : MethodName := ⟨RX8, "letter", "()I"⟩
abbrev cX8_readsSample : ByteArray := prog_10_method_34_code
def yX8_readsSample : MethodName := ⟨RX8, "readsSample", "()V"⟩
abbrev cX8_reads : ByteArray := prog_10_method_35_code
def yX8_reads : MethodName := ⟨RX8, "reads", "()I"⟩
abbrev cX8_addSamples : ByteArray := prog_10_method_36_code
def yX8_addSamples : MethodName := ⟨RX8, "addSamples", "()I"⟩
abbrev cX8_removeSample : ByteArray := prog_10_method_37_code
def yX8_removeSample : MethodName := ⟨RX8, "removeSample", "(I)I"⟩
abbrev cX8_counts : ByteArray := prog_10_method_38_code
def yX8_counts : MethodName := ⟨RX8, "counts", "(IJ)V"⟩
abbrev cX8_learnsFamily : ByteArray := prog_10_method_39_code
def yX8_learnsFamily : MethodName := ⟨RX8, "learnsFamily", "(II)Z"⟩
abbrev cX8_learnsOnce : ByteArray := prog_10_method_40_code
def yX8_learnsOnce : MethodName := ⟨RX8, "learnsOnce", "()Z"⟩
abbrev cX8_learn : ByteArray := prog_10_method_41_code
def yX8_learn : MethodName := ⟨RX8, "learn", "(I)I"⟩
abbrev cX8_swapsAside : ByteArray := prog_10_method_42_code
def yX8_swapsAside : MethodName := ⟨RX8, "swapsAside", "()V"⟩
abbrev cX8_type : ByteArray := prog_10_method_43_code
def yX8_type : MethodName := ⟨RX8, "type", "(C)I"⟩
abbrev cX8_clearText : ByteArray := prog_10_method_44_code
def yX8_clearText : MethodName := ⟨RX8, "clearText", "()I"⟩
abbrev cX8_undo : ByteArray := prog_10_method_45_code
def yX8_undo : MethodName := ⟨RX8, "undo", "()I"⟩
abbrev cX8_keep : ByteArray := prog_10_method_46_code
def yX8_keep : MethodName := ⟨RX8, "keep", "()I"⟩
abbrev cX8_restore : ByteArray := prog_10_method_47_code
def yX8_restore : MethodName := ⟨RX8, "restore", "()I"⟩
abbrev cX8_laysOdds : ByteArray := prog_10_method_48_code
def yX8_laysOdds : MethodName := ⟨RX8, "laysOdds", "(II)V"⟩
abbrev cX8_weight : ByteArray := prog_10_method_49_code
def yX8_weight : MethodName := ⟨RX8, "weight", "(IIIZ)I"⟩
abbrev cX8_oddsOf : ByteArray := prog_10_method_50_code
def yX8_oddsOf : MethodName := ⟨RX8, "oddsOf", "(III)I"⟩
abbrev cX8_isPlace : ByteArray := prog_10_method_51_code
def yX8_isPlace : MethodName := ⟨RX8, "isPlace", "(II)Z"⟩
abbrev cX8_sign : ByteArray := prog_10_method_52_code
def yX8_sign : MethodName := ⟨RX8, "sign", "(II)I"⟩
abbrev cX8_ofSample : ByteArray := prog_10_method_53_code
def yX8_ofSample : MethodName := ⟨RX8, "ofSample", "(II)J"⟩
abbrev cX8_best : ByteArray := prog_10_method_54_code
def yX8_best : MethodName := ⟨RX8, "best", "(II)I"⟩
abbrev cX8_share : ByteArray := prog_10_method_55_code
def yX8_share : MethodName := ⟨RX8, "share", "(III)I"⟩
abbrev cX8_likeliest : ByteArray := prog_10_method_56_code
def yX8_likeliest : MethodName := ⟨RX8, "likeliest", "(II)I"⟩
abbrev cX8_doubts : ByteArray := prog_10_method_57_code
def yX8_doubts : MethodName := ⟨RX8, "doubts", "(I)I"⟩
abbrev cX8_doubtful : ByteArray := prog_10_method_58_code
def yX8_doubtful : MethodName := ⟨RX8, "doubtful", "(I)I"⟩
abbrev cX8_run : ByteArray := prog_10_method_59_code
def yX8_run : MethodName := ⟨RX8, "run", "(III)I"⟩
abbrev cX8_weightOfNext : ByteArray := prog_10_method_60_code
def yX8_weightOfNext : MethodName := ⟨RX8, "weightOfNext", "(II)J"⟩
abbrev cX8_next : ByteArray := prog_10_method_61_code
def yX8_next : MethodName := ⟨RX8, "next", "(II)I"⟩
abbrev cX8_signs : ByteArray := prog_10_method_62_code
def yX8_signs : MethodName := ⟨RX8, "signs", "()I"⟩
abbrev cX8_overSamples : ByteArray := prog_10_method_63_code
def yX8_overSamples : MethodName := ⟨RX8, "overSamples", "(I)I"⟩
abbrev cX8_count : ByteArray := prog_10_method_64_code
def yX8_count : MethodName := ⟨RX8, "count", "(I)I"⟩
def RJ6 : String := "java/lang/Integer"
def TJ6 : u_T := fun k => match k with
  | _ => ("", "", "", false)
def tyJ6 : Nat → FieldType := fun k => match k with
  | _ => .int
theorem nmJ6 : ∀ a, a < 0 → ∀ b, b < 0 → a ≠ b → (TJ6 a).2.1 ≠ (TJ6 b).2.1 := by decide +kernel
theorem tyJ6_ok : ∀ k, k < 0 → parseFieldDescriptor (TJ6 k).2.2.1 = some (tyJ6 k) := by decide +kernel
abbrev cJ6_bitCount_0f7a4 : ByteArray := prog_11_method_49_code
def yJ6_bitCount_0f7a4 : MethodName := ⟨RJ6, "bitCount", "(I)I"⟩
def RJ9 : String := "java/lang/Math"
def TJ9 : u_T := fun k => match k with
  | _ => ("", "", "", false)
def tyJ9 : Nat → FieldType := fun k => match k with
  | _ => .int
theorem nmJ9 : ∀ a, a < 0 → ∀ b, b < 0 → a ≠ b → (TJ9 a).2.1 ≠ (TJ9 b).2.1 := by decide +kernel
theorem tyJ9_ok : ∀ k, k < 0 → parseFieldDescriptor (TJ9 k).2.2.1 = some (tyJ9 k) := by decide +kernel
abbrev cJ9_max_7cf53 : ByteArray := prog_12_method_65_code
def yJ9_max_7cf53 : MethodName := ⟨RJ9, "max", "(II)I"⟩
abbrev cJ9_min_7cf53 : ByteArray := prog_12_method_69_code
def yJ9_min_7cf53 : MethodName := ⟨RJ9, "min", "(II)I"⟩
def RJ10 : String := "java/lang/System"
def TJ10 : u_T := fun k => match k with
  | _ => ("", "", "", false)
def tyJ10 : Nat → FieldType := fun k => match k with
  | _ => .int
theorem nmJ10 : ∀ a, a < 0 → ∀ b, b < 0 → a ≠ b → (TJ10 a).2.1 ≠ (TJ10 b).2.1 := by decide +kernel
theorem tyJ10_ok : ∀ k, k < 0 → parseFieldDescriptor (TJ10 k).2.2.1 = some (tyJ10 k) := by decide +kernel
def RJ7 : String := "java/util/Arrays"
def TJ7 : u_T := fun k => match k with
  | _ => ("", "", "", false)
def tyJ7 : Nat → FieldType := fun k => match k with
  | _ => .int
theorem nmJ7 : ∀ a, a < 0 → ∀ b, b < 0 → a ≠ b → (TJ7 a).2.1 ≠ (TJ7 b).2.1 := by decide +kernel
theorem tyJ7_ok : ∀ k, k < 0 → parseFieldDescriptor (TJ7 k).2.2.1 = some (tyJ7 k) := by decide +kernel
abbrev cJ7_fill_53178 : ByteArray := prog_14_method_103_code
def yJ7_fill_53178 : MethodName := ⟨RJ7, "fill", "([II)V"⟩
def RL : String := "HiddenRunsLaw"
abbrev cL_law : ByteArray := code
def yL_law : MethodName := ⟨RL, "law", "([I)Z"⟩
abbrev vwCl : List vw_C := [(RX0, TX0, 4), (RX1, TX1, 2), (RX2, TX2, 4), (RX3, TX3, 6), (RX4, TX4, 3), (RX5, TX5, 2), (RX6, TX6, 6), (RX7, TX7, 9), (RX8, TX8, 20)]
end
section
/-! the tables' words that a method may use, each by its place -/
def TB : List Cond := lw_tbl.filter goodWord
theorem TB_mem {w : Cond} (i : Nat) (h : lw_tbl[i]? = some w) (g : goodWord w = true) : w ∈ TB := List.mem_filter.mpr ⟨List.mem_of_getElem? h, g⟩
theorem TB_good : ∀ w ∈ TB, goodWord w = true := fun _ h => (List.mem_filter.mp h).2
theorem TB_in : ∀ w ∈ TB, w ∈ lw_tbl := fun _ h => (List.mem_filter.mp h).1
def isNest : Cond → Bool
  | .fieldLinkNest .. => true
  | .methodLinkNest .. => true
  | _ => false
def nestW : List Cond := lw_tbl.filter isNest
theorem NW_mem {w : Cond} (i : Nat) (h : lw_tbl[i]? = some w) (g : isNest w = true) : w ∈ nestW := List.mem_filter.mpr ⟨List.mem_of_getElem? h, g⟩
theorem NW_is : ∀ w ∈ nestW, isNest w = true := fun _ h => (List.mem_filter.mp h).2
theorem NW_in : ∀ w ∈ nestW, w ∈ lw_tbl := fun _ h => (List.mem_filter.mp h).1
theorem in_L : Cond.initialized RL ∈ TB := TB_mem 54 (by decide +kernel) rfl
theorem in_X7 : Cond.initialized RX7 ∈ TB := TB_mem 55 (by decide +kernel) rfl
theorem in_X3 : Cond.initialized RX3 ∈ TB := TB_mem 56 (by decide +kernel) rfl
theorem in_X6 : Cond.initialized RX6 ∈ TB := TB_mem 57 (by decide +kernel) rfl
theorem in_X1 : Cond.initialized RX1 ∈ TB := TB_mem 58 (by decide +kernel) rfl
theorem in_X5 : Cond.initialized RX5 ∈ TB := TB_mem 59 (by decide +kernel) rfl
theorem in_X0 : Cond.initialized RX0 ∈ TB := TB_mem 60 (by decide +kernel) rfl
theorem in_X4 : Cond.initialized RX4 ∈ TB := TB_mem 61 (by decide +kernel) rfl
theorem in_X2 : Cond.initialized RX2 ∈ TB := TB_mem 62 (by decide +kernel) rfl
theorem in_X8 : Cond.initialized RX8 ∈ TB := TB_mem 63 (by decide +kernel) rfl
theorem in_J10 : Cond.initialized RJ10 ∈ TB := TB_mem 64 (by decide +kernel) rfl
theorem in_System : Cond.initialized "java/lang/System" ∈ TB := TB_mem 64 (by decide +kernel) rfl
theorem in_J9 : Cond.initialized RJ9 ∈ TB := TB_mem 65 (by decide +kernel) rfl
theorem in_Math : Cond.initialized "java/lang/Math" ∈ TB := TB_mem 65 (by decide +kernel) rfl
theorem in_J7 : Cond.initialized RJ7 ∈ TB := TB_mem 66 (by decide +kernel) rfl
theorem in_Arrays : Cond.initialized "java/util/Arrays" ∈ TB := TB_mem 66 (by decide +kernel) rfl
theorem in_J6 : Cond.initialized RJ6 ∈ TB := TB_mem 67 (by decide +kernel) rfl
theorem in_Integer : Cond.initialized "java/lang/Integer" ∈ TB := TB_mem 67 (by decide +kernel) rfl
theorem cl_L_7 : Cond.classLink RL 7 RX7 ∈ TB := TB_mem 68 (by decide +kernel) rfl
theorem ib_X7 : Cond.instantiable RX7 9 ∈ TB := TB_mem 69 (by decide +kernel) rfl
theorem ml_L_9 : Cond.methodLink RL 9 yX7_init ∈ TB := TB_mem 70 (by decide +kernel) rfl
theorem im_X7_init : Cond.instanceMethod yX7_init ∈ TB := TB_mem 71 (by decide +kernel) rfl
theorem kc_X7_init : Cond.code yX7_init cX7_init 3 none ∈ TB := TB_mem 72 (by decide +kernel) rfl
theorem ml_X7_1 : Cond.methodLink RX7 1 objectInit ∈ TB := TB_mem 73 (by decide +kernel) rfl
theorem im_obj : Cond.instanceMethod objectInit ∈ TB := TB_mem 74 (by decide +kernel) rfl
theorem kc_obj : Cond.code objectInit ⟨#[0xb1]⟩ 1 none ∈ TB := TB_mem 75 (by decide +kernel) rfl
theorem cl_X7_7 : Cond.classLink RX7 7 RX3 ∈ TB := TB_mem 76 (by decide +kernel) rfl
theorem ib_X3 : Cond.instantiable RX3 6 ∈ TB := TB_mem 77 (by decide +kernel) rfl
theorem ml_X7_9 : Cond.methodLink RX7 9 yX3_init ∈ TB := TB_mem 78 (by decide +kernel) rfl
theorem im_X3_init : Cond.instanceMethod yX3_init ∈ TB := TB_mem 79 (by decide +kernel) rfl
theorem kc_X3_init : Cond.code yX3_init cX3_init 2 none ∈ TB := TB_mem 80 (by decide +kernel) rfl
theorem ml_X3_5 : Cond.methodLink RX3 5 objectInit ∈ TB := TB_mem 81 (by decide +kernel) rfl
theorem fl_X3_11 : Cond.fieldLink RX3 11 "HiddenRuns$Model" "weights" "[I" ∈ TB := TB_mem 82 (by decide +kernel) rfl
theorem fl_X7_77 : Cond.fieldLinkNest RX7 77 "HiddenRuns$Model" "weights" "[I" "HiddenRuns" ∈ nestW := NW_mem 83 (by decide +kernel) rfl
theorem fl_X2_51 : Cond.fieldLinkNest RX2 51 "HiddenRuns$Model" "weights" "[I" "HiddenRuns" ∈ nestW := NW_mem 84 (by decide +kernel) rfl
theorem fl_X3_15 : Cond.fieldLink RX3 15 "HiddenRuns$Model" "states" "I" ∈ TB := TB_mem 85 (by decide +kernel) rfl
theorem fl_X4_24 : Cond.fieldLinkNest RX4 24 "HiddenRuns$Model" "states" "I" "HiddenRuns" ∈ nestW := NW_mem 86 (by decide +kernel) rfl
theorem fl_X0_28 : Cond.fieldLinkNest RX0 28 "HiddenRuns$Model" "states" "I" "HiddenRuns" ∈ nestW := NW_mem 87 (by decide +kernel) rfl
theorem fl_X6_35 : Cond.fieldLinkNest RX6 35 "HiddenRuns$Model" "states" "I" "HiddenRuns" ∈ nestW := NW_mem 88 (by decide +kernel) rfl
theorem fl_X2_64 : Cond.fieldLinkNest RX2 64 "HiddenRuns$Model" "states" "I" "HiddenRuns" ∈ nestW := NW_mem 89 (by decide +kernel) rfl
theorem fl_X7_84 : Cond.fieldLinkNest RX7 84 "HiddenRuns$Model" "states" "I" "HiddenRuns" ∈ nestW := NW_mem 90 (by decide +kernel) rfl
theorem fl_X3_19 : Cond.fieldLink RX3 19 "HiddenRuns$Model" "bound" "I" ∈ TB := TB_mem 91 (by decide +kernel) rfl
theorem fl_X7_114 : Cond.fieldLinkNest RX7 114 "HiddenRuns$Model" "bound" "I" "HiddenRuns" ∈ nestW := NW_mem 92 (by decide +kernel) rfl
theorem fl_X6_81 : Cond.fieldLinkNest RX6 81 "HiddenRuns$Model" "bound" "I" "HiddenRuns" ∈ nestW := NW_mem 93 (by decide +kernel) rfl
theorem fl_X3_22 : Cond.fieldLink RX3 22 "HiddenRuns$Model" "lengths" "[I" ∈ TB := TB_mem 94 (by decide +kernel) rfl
theorem fl_X4_19 : Cond.fieldLinkNest RX4 19 "HiddenRuns$Model" "lengths" "[I" "HiddenRuns" ∈ nestW := NW_mem 95 (by decide +kernel) rfl
theorem fl_X0_23 : Cond.fieldLinkNest RX0 23 "HiddenRuns$Model" "lengths" "[I" "HiddenRuns" ∈ nestW := NW_mem 96 (by decide +kernel) rfl
theorem fl_X6_26 : Cond.fieldLinkNest RX6 26 "HiddenRuns$Model" "lengths" "[I" "HiddenRuns" ∈ nestW := NW_mem 97 (by decide +kernel) rfl
theorem fl_X7_236 : Cond.fieldLinkNest RX7 236 "HiddenRuns$Model" "lengths" "[I" "HiddenRuns" ∈ nestW := NW_mem 98 (by decide +kernel) rfl
theorem fl_X3_25 : Cond.fieldLink RX3 25 "HiddenRuns$Model" "signs" "[I" ∈ TB := TB_mem 99 (by decide +kernel) rfl
theorem fl_X2_34 : Cond.fieldLinkNest RX2 34 "HiddenRuns$Model" "samples" "I" "HiddenRuns" ∈ nestW := NW_mem 100 (by decide +kernel) rfl
theorem fl_X3_34 : Cond.fieldLink RX3 34 "HiddenRuns$Model" "samples" "I" ∈ TB := TB_mem 101 (by decide +kernel) rfl
theorem fl_X7_124 : Cond.fieldLinkNest RX7 124 "HiddenRuns$Model" "samples" "I" "HiddenRuns" ∈ nestW := NW_mem 102 (by decide +kernel) rfl
theorem ac_int : Cond.arrayClass .int ∈ TB := TB_mem 116 (by decide +kernel) rfl
theorem cl_X7_10 : Cond.classLink RX7 10 RX6 ∈ TB := TB_mem 117 (by decide +kernel) rfl
theorem ib_X6 : Cond.instantiable RX6 6 ∈ TB := TB_mem 118 (by decide +kernel) rfl
theorem ml_X7_12 : Cond.methodLink RX7 12 yX6_init ∈ TB := TB_mem 119 (by decide +kernel) rfl
theorem im_X6_init : Cond.instanceMethod yX6_init ∈ TB := TB_mem 120 (by decide +kernel) rfl
theorem kc_X6_init : Cond.code yX6_init cX6_init 2 none ∈ TB := TB_mem 121 (by decide +kernel) rfl
theorem ml_X6_3 : Cond.methodLink RX6 3 objectInit ∈ TB := TB_mem 122 (by decide +kernel) rfl
theorem fl_X6_9 : Cond.fieldLink RX6 9 "HiddenRuns$Sums" "model" "LHiddenRuns$Model;" ∈ TB := TB_mem 123 (by decide +kernel) rfl
theorem fl_X6_22 : Cond.fieldLink RX6 22 "HiddenRuns$Sums" "sample" "I" ∈ TB := TB_mem 124 (by decide +kernel) rfl
theorem fl_X6_32 : Cond.fieldLink RX6 32 "HiddenRuns$Sums" "places" "I" ∈ TB := TB_mem 125 (by decide +kernel) rfl
theorem fl_X6_15 : Cond.fieldLink RX6 15 "HiddenRuns$Sums" "ahead" "[J" ∈ TB := TB_mem 126 (by decide +kernel) rfl
theorem fl_X6_19 : Cond.fieldLink RX6 19 "HiddenRuns$Sums" "behind" "[J" ∈ TB := TB_mem 127 (by decide +kernel) rfl
theorem fl_X2_44 : Cond.fieldLinkNest RX2 44 "HiddenRuns$Sums" "total" "J" "HiddenRuns" ∈ nestW := NW_mem 128 (by decide +kernel) rfl
theorem fl_X6_45 : Cond.fieldLink RX6 45 "HiddenRuns$Sums" "total" "J" ∈ TB := TB_mem 129 (by decide +kernel) rfl
theorem fl_X7_180 : Cond.fieldLinkNest RX7 180 "HiddenRuns$Sums" "total" "J" "HiddenRuns" ∈ nestW := NW_mem 130 (by decide +kernel) rfl
theorem ac_long : Cond.arrayClass .long ∈ TB := TB_mem 144 (by decide +kernel) rfl
theorem cl_X7_24 : Cond.classLink RX7 24 RX1 ∈ TB := TB_mem 145 (by decide +kernel) rfl
theorem ib_X1 : Cond.instantiable RX1 2 ∈ TB := TB_mem 146 (by decide +kernel) rfl
theorem ml_X7_26 : Cond.methodLink RX7 26 yX1_init ∈ TB := TB_mem 147 (by decide +kernel) rfl
theorem im_X1_init : Cond.instanceMethod yX1_init ∈ TB := TB_mem 148 (by decide +kernel) rfl
theorem kc_X1_init : Cond.code yX1_init cX1_init 2 none ∈ TB := TB_mem 149 (by decide +kernel) rfl
theorem ml_X1_3 : Cond.methodLink RX1 3 objectInit ∈ TB := TB_mem 150 (by decide +kernel) rfl
theorem cl_X1_9 : Cond.classLink RX1 9 RX3 ∈ TB := TB_mem 151 (by decide +kernel) rfl
theorem ao_model : Cond.arrayOver (.object "HiddenRuns$Model") ∈ lw_tbl := List.mem_of_getElem? (i := 152) (by decide +kernel)
theorem ml_X1_17 : Cond.methodLink RX1 17 yX3_init ∈ TB := TB_mem 153 (by decide +kernel) rfl
theorem fl_X1_11 : Cond.fieldLink RX1 11 "HiddenRuns$History" "past" "[LHiddenRuns$Model;" ∈ TB := TB_mem 154 (by decide +kernel) rfl
theorem fl_X1_18 : Cond.fieldLink RX1 18 "HiddenRuns$History" "size" "I" ∈ TB := TB_mem 155 (by decide +kernel) rfl
theorem fl_X7_152 : Cond.fieldLinkNest RX7 152 "HiddenRuns$History" "size" "I" "HiddenRuns" ∈ nestW := NW_mem 156 (by decide +kernel) rfl
theorem cl_X7_31 : Cond.classLink RX7 31 RX5 ∈ TB := TB_mem 162 (by decide +kernel) rfl
theorem ib_X5 : Cond.instantiable RX5 2 ∈ TB := TB_mem 163 (by decide +kernel) rfl
theorem ml_X7_33 : Cond.methodLink RX7 33 yX5_init ∈ TB := TB_mem 164 (by decide +kernel) rfl
theorem im_X5_init : Cond.instanceMethod yX5_init ∈ TB := TB_mem 165 (by decide +kernel) rfl
theorem kc_X5_init : Cond.code yX5_init cX5_init 1 none ∈ TB := TB_mem 166 (by decide +kernel) rfl
theorem ml_X5_3 : Cond.methodLink RX5 3 objectInit ∈ TB := TB_mem 167 (by decide +kernel) rfl
theorem fl_X5_9 : Cond.fieldLink RX5 9 "HiddenRuns$SampleText" "characters" "[C" ∈ TB := TB_mem 168 (by decide +kernel) rfl
theorem fl_X5_15 : Cond.fieldLink RX5 15 "HiddenRuns$SampleText" "length" "I" ∈ TB := TB_mem 169 (by decide +kernel) rfl
theorem fl_X7_142 : Cond.fieldLinkNest RX7 142 "HiddenRuns$SampleText" "length" "I" "HiddenRuns" ∈ nestW := NW_mem 170 (by decide +kernel) rfl
theorem ac_char : Cond.arrayClass .char ∈ TB := TB_mem 176 (by decide +kernel) rfl
theorem cl_X7_42 : Cond.classLink RX7 42 RX0 ∈ TB := TB_mem 177 (by decide +kernel) rfl
theorem ib_X0 : Cond.instantiable RX0 4 ∈ TB := TB_mem 178 (by decide +kernel) rfl
theorem ml_X7_44 : Cond.methodLink RX7 44 yX0_init ∈ TB := TB_mem 179 (by decide +kernel) rfl
theorem im_X0_init : Cond.instanceMethod yX0_init ∈ TB := TB_mem 180 (by decide +kernel) rfl
theorem kc_X0_init : Cond.code yX0_init cX0_init 2 none ∈ TB := TB_mem 181 (by decide +kernel) rfl
theorem ml_X0_3 : Cond.methodLink RX0 3 objectInit ∈ TB := TB_mem 182 (by decide +kernel) rfl
theorem fl_X0_9 : Cond.fieldLink RX0 9 "HiddenRuns$BestRun" "model" "LHiddenRuns$Model;" ∈ TB := TB_mem 183 (by decide +kernel) rfl
theorem fl_X0_15 : Cond.fieldLink RX0 15 "HiddenRuns$BestRun" "greatest" "[J" ∈ TB := TB_mem 184 (by decide +kernel) rfl
theorem fl_X0_19 : Cond.fieldLink RX0 19 "HiddenRuns$BestRun" "path" "[I" ∈ TB := TB_mem 185 (by decide +kernel) rfl
theorem fl_X7_192 : Cond.fieldLinkNest RX7 192 "HiddenRuns$BestRun" "path" "[I" "HiddenRuns" ∈ nestW := NW_mem 186 (by decide +kernel) rfl
theorem fl_X0_52 : Cond.fieldLink RX0 52 "HiddenRuns$BestRun" "weight" "J" ∈ TB := TB_mem 187 (by decide +kernel) rfl
theorem fl_X7_187 : Cond.fieldLinkNest RX7 187 "HiddenRuns$BestRun" "weight" "J" "HiddenRuns" ∈ nestW := NW_mem 188 (by decide +kernel) rfl
theorem cl_X7_49 : Cond.classLink RX7 49 RX4 ∈ TB := TB_mem 198 (by decide +kernel) rfl
theorem ib_X4 : Cond.instantiable RX4 3 ∈ TB := TB_mem 199 (by decide +kernel) rfl
theorem ml_X7_51 : Cond.methodLink RX7 51 yX4_init ∈ TB := TB_mem 200 (by decide +kernel) rfl
theorem im_X4_init : Cond.instanceMethod yX4_init ∈ TB := TB_mem 201 (by decide +kernel) rfl
theorem kc_X4_init : Cond.code yX4_init cX4_init 2 none ∈ TB := TB_mem 202 (by decide +kernel) rfl
theorem ml_X4_3 : Cond.methodLink RX4 3 objectInit ∈ TB := TB_mem 203 (by decide +kernel) rfl
theorem fl_X4_9 : Cond.fieldLink RX4 9 "HiddenRuns$RunOrder" "model" "LHiddenRuns$Model;" ∈ TB := TB_mem 204 (by decide +kernel) rfl
theorem fl_X4_15 : Cond.fieldLink RX4 15 "HiddenRuns$RunOrder" "parts" "[I" ∈ TB := TB_mem 205 (by decide +kernel) rfl
theorem fl_X4_36 : Cond.fieldLink RX4 36 "HiddenRuns$RunOrder" "size" "I" ∈ TB := TB_mem 206 (by decide +kernel) rfl
theorem fl_X7_185 : Cond.fieldLinkNest RX7 185 "HiddenRuns$RunOrder" "size" "I" "HiddenRuns" ∈ nestW := NW_mem 207 (by decide +kernel) rfl
theorem cl_X7_56 : Cond.classLink RX7 56 RX2 ∈ TB := TB_mem 215 (by decide +kernel) rfl
theorem ib_X2 : Cond.instantiable RX2 4 ∈ TB := TB_mem 216 (by decide +kernel) rfl
theorem ml_X7_58 : Cond.methodLink RX7 58 yX2_init ∈ TB := TB_mem 217 (by decide +kernel) rfl
theorem im_X2_init : Cond.instanceMethod yX2_init ∈ TB := TB_mem 218 (by decide +kernel) rfl
theorem kc_X2_init : Cond.code yX2_init cX2_init 3 none ∈ TB := TB_mem 219 (by decide +kernel) rfl
theorem ml_X2_3 : Cond.methodLink RX2 3 objectInit ∈ TB := TB_mem 220 (by decide +kernel) rfl
theorem fl_X2_9 : Cond.fieldLink RX2 9 "HiddenRuns$Learner" "model" "LHiddenRuns$Model;" ∈ TB := TB_mem 221 (by decide +kernel) rfl
theorem fl_X2_15 : Cond.fieldLink RX2 15 "HiddenRuns$Learner" "sums" "LHiddenRuns$Sums;" ∈ TB := TB_mem 222 (by decide +kernel) rfl
theorem fl_X2_21 : Cond.fieldLink RX2 21 "HiddenRuns$Learner" "counts" "[I" ∈ TB := TB_mem 223 (by decide +kernel) rfl
theorem fl_X2_25 : Cond.fieldLink RX2 25 "HiddenRuns$Learner" "made" "[I" ∈ TB := TB_mem 224 (by decide +kernel) rfl
theorem fl_X7_15 : Cond.fieldLink RX7 15 "HiddenRuns" "now" "LHiddenRuns$Model;" ∈ TB := TB_mem 234 (by decide +kernel) rfl
theorem fl_X7_21 : Cond.fieldLink RX7 21 "HiddenRuns" "snapshot" "LHiddenRuns$Model;" ∈ TB := TB_mem 235 (by decide +kernel) rfl
theorem fl_X7_161 : Cond.fieldLink RX7 161 "HiddenRuns" "hasSnapshot" "Z" ∈ TB := TB_mem 236 (by decide +kernel) rfl
theorem fl_X7_27 : Cond.fieldLink RX7 27 "HiddenRuns" "history" "LHiddenRuns$History;" ∈ TB := TB_mem 237 (by decide +kernel) rfl
theorem fl_X7_34 : Cond.fieldLink RX7 34 "HiddenRuns" "text" "LHiddenRuns$SampleText;" ∈ TB := TB_mem 238 (by decide +kernel) rfl
theorem fl_X7_38 : Cond.fieldLink RX7 38 "HiddenRuns" "sums" "LHiddenRuns$Sums;" ∈ TB := TB_mem 239 (by decide +kernel) rfl
theorem fl_X7_45 : Cond.fieldLink RX7 45 "HiddenRuns" "bestRun" "LHiddenRuns$BestRun;" ∈ TB := TB_mem 240 (by decide +kernel) rfl
theorem fl_X7_52 : Cond.fieldLink RX7 52 "HiddenRuns" "runOrder" "LHiddenRuns$RunOrder;" ∈ TB := TB_mem 241 (by decide +kernel) rfl
theorem fl_X7_61 : Cond.fieldLink RX7 61 "HiddenRuns" "learner" "LHiddenRuns$Learner;" ∈ TB := TB_mem 242 (by decide +kernel) rfl
theorem ml_L_13 : Cond.methodLink RL 13 yX7_setWeight ∈ TB := TB_mem 262 (by decide +kernel) rfl
theorem im_X7_setWeight : Cond.instanceMethod yX7_setWeight ∈ TB := TB_mem 263 (by decide +kernel) rfl
theorem se_X7_setWeight : Cond.selects RX7 yX7_setWeight yX7_setWeight ∈ TB := TB_mem 264 (by decide +kernel) rfl
theorem kc_X7_setWeight : Cond.code yX7_setWeight cX7_setWeight 7 (some .int) ∈ TB := TB_mem 265 (by decide +kernel) rfl
theorem ml_X7_65 : Cond.methodLink RX7 65 yX7_isKind ∈ TB := TB_mem 266 (by decide +kernel) rfl
theorem sm_X7_isKind : Cond.static yX7_isKind ∈ TB := TB_mem 267 (by decide +kernel) rfl
theorem kc_X7_isKind : Cond.code yX7_isKind cX7_isKind 1 (some .boolean) ∈ TB := TB_mem 268 (by decide +kernel) rfl
theorem ml_X7_69 : Cond.methodLink RX7 69 yX3_hasWeight ∈ TB := TB_mem 269 (by decide +kernel) rfl
theorem im_X3_hasWeight : Cond.instanceMethod yX3_hasWeight ∈ TB := TB_mem 270 (by decide +kernel) rfl
theorem se_X3_hasWeight : Cond.selects RX3 yX3_hasWeight yX3_hasWeight ∈ TB := TB_mem 271 (by decide +kernel) rfl
theorem kc_X3_hasWeight : Cond.code yX3_hasWeight cX3_hasWeight 5 (some .boolean) ∈ TB := TB_mem 272 (by decide +kernel) rfl
theorem ml_X3_41 : Cond.methodLink RX3 41 yX3_familySize ∈ TB := TB_mem 273 (by decide +kernel) rfl
theorem im_X3_familySize : Cond.instanceMethod yX3_familySize ∈ TB := TB_mem 274 (by decide +kernel) rfl
theorem se_X3_familySize : Cond.selects RX3 yX3_familySize yX3_familySize ∈ TB := TB_mem 275 (by decide +kernel) rfl
theorem kc_X3_familySize : Cond.code yX3_familySize cX3_familySize 2 (some .int) ∈ TB := TB_mem 276 (by decide +kernel) rfl
theorem ml_X3_45 : Cond.methodLink RX3 45 yX3_hasState ∈ TB := TB_mem 277 (by decide +kernel) rfl
theorem im_X3_hasState : Cond.instanceMethod yX3_hasState ∈ TB := TB_mem 278 (by decide +kernel) rfl
theorem se_X3_hasState : Cond.selects RX3 yX3_hasState yX3_hasState ∈ TB := TB_mem 279 (by decide +kernel) rfl
theorem kc_X3_hasState : Cond.code yX3_hasState cX3_hasState 2 (some .boolean) ∈ TB := TB_mem 280 (by decide +kernel) rfl
theorem ml_X7_73 : Cond.methodLink RX7 73 yX3_cellOf ∈ TB := TB_mem 281 (by decide +kernel) rfl
theorem sm_X3_cellOf : Cond.static yX3_cellOf ∈ TB := TB_mem 282 (by decide +kernel) rfl
theorem kc_X3_cellOf : Cond.code yX3_cellOf cX3_cellOf 4 (some .int) ∈ TB := TB_mem 283 (by decide +kernel) rfl
theorem ml_X7_81 : Cond.methodLink RX7 81 yX1_record ∈ TB := TB_mem 284 (by decide +kernel) rfl
theorem im_X1_record : Cond.instanceMethod yX1_record ∈ TB := TB_mem 285 (by decide +kernel) rfl
theorem se_X1_record : Cond.selects RX1 yX1_record yX1_record ∈ TB := TB_mem 286 (by decide +kernel) rfl
theorem kc_X1_record : Cond.code yX1_record cX1_record 2 none ∈ TB := TB_mem 287 (by decide +kernel) rfl
theorem ml_X1_22 : Cond.methodLink RX1 22 yX1_dropOldest ∈ TB := TB_mem 288 (by decide +kernel) rfl
theorem im_X1_dropOldest : Cond.instanceMethod yX1_dropOldest ∈ TB := TB_mem 290 (by decide +kernel) rfl
theorem kc_X1_dropOldest : Cond.code yX1_dropOldest cX1_dropOldest 3 none ∈ TB := TB_mem 291 (by decide +kernel) rfl
theorem ml_X1_25 : Cond.methodLink RX1 25 yX3_copyFrom ∈ TB := TB_mem 292 (by decide +kernel) rfl
theorem im_X3_copyFrom : Cond.instanceMethod yX3_copyFrom ∈ TB := TB_mem 293 (by decide +kernel) rfl
theorem se_X3_copyFrom : Cond.selects RX3 yX3_copyFrom yX3_copyFrom ∈ TB := TB_mem 294 (by decide +kernel) rfl
theorem kc_X3_copyFrom : Cond.code yX3_copyFrom cX3_copyFrom 2 none ∈ TB := TB_mem 295 (by decide +kernel) rfl
theorem ml_X3_28 : Cond.methodLink RX3 28 arraycopyName ∈ TB := TB_mem 296 (by decide +kernel) rfl
theorem sm_acopy : Cond.static arraycopyName ∈ TB := TB_mem 297 (by decide +kernel) rfl
theorem na_acopy : Cond.native arraycopyName ∈ TB := TB_mem 298 (by decide +kernel) rfl
theorem ml_L_18 : Cond.methodLink RL 18 yX7_addState ∈ TB := TB_mem 299 (by decide +kernel) rfl
theorem im_X7_addState : Cond.instanceMethod yX7_addState ∈ TB := TB_mem 300 (by decide +kernel) rfl
theorem se_X7_addState : Cond.selects RX7 yX7_addState yX7_addState ∈ TB := TB_mem 301 (by decide +kernel) rfl
theorem kc_X7_addState : Cond.code yX7_addState cX7_addState 1 (some .int) ∈ TB := TB_mem 302 (by decide +kernel) rfl
theorem ml_X7_88 : Cond.methodLink RX7 88 yX3_appendState ∈ TB := TB_mem 303 (by decide +kernel) rfl
theorem im_X3_appendState : Cond.instanceMethod yX3_appendState ∈ TB := TB_mem 304 (by decide +kernel) rfl
theorem se_X3_appendState : Cond.selects RX3 yX3_appendState yX3_appendState ∈ TB := TB_mem 305 (by decide +kernel) rfl
theorem kc_X3_appendState : Cond.code yX3_appendState cX3_appendState 3 none ∈ TB := TB_mem 306 (by decide +kernel) rfl
theorem ml_X3_48 : Cond.methodLink RX3 48 yX3_cellOf ∈ TB := TB_mem 307 (by decide +kernel) rfl
theorem ml_L_23 : Cond.methodLink RL 23 yX7_split ∈ TB := TB_mem 308 (by decide +kernel) rfl
theorem im_X7_split : Cond.instanceMethod yX7_split ∈ TB := TB_mem 309 (by decide +kernel) rfl
theorem se_X7_split : Cond.selects RX7 yX7_split yX7_split ∈ TB := TB_mem 310 (by decide +kernel) rfl
theorem kc_X7_split : Cond.code yX7_split cX7_split 2 (some .int) ∈ TB := TB_mem 311 (by decide +kernel) rfl
theorem ml_X7_91 : Cond.methodLink RX7 91 yX3_hasState ∈ TB := TB_mem 312 (by decide +kernel) rfl
theorem ml_X7_94 : Cond.methodLink RX7 94 yX3_appendTwin ∈ TB := TB_mem 313 (by decide +kernel) rfl
theorem im_X3_appendTwin : Cond.instanceMethod yX3_appendTwin ∈ TB := TB_mem 314 (by decide +kernel) rfl
theorem se_X3_appendTwin : Cond.selects RX3 yX3_appendTwin yX3_appendTwin ∈ TB := TB_mem 315 (by decide +kernel) rfl
theorem kc_X3_appendTwin : Cond.code yX3_appendTwin cX3_appendTwin 4 none ∈ TB := TB_mem 316 (by decide +kernel) rfl
theorem ml_X3_62 : Cond.methodLink RX3 62 yX3_go ∈ TB := TB_mem 317 (by decide +kernel) rfl
theorem im_X3_go : Cond.instanceMethod yX3_go ∈ TB := TB_mem 318 (by decide +kernel) rfl
theorem se_X3_go : Cond.selects RX3 yX3_go yX3_go ∈ TB := TB_mem 319 (by decide +kernel) rfl
theorem kc_X3_go : Cond.code yX3_go cX3_go 3 (some .int) ∈ TB := TB_mem 320 (by decide +kernel) rfl
theorem ml_L_28 : Cond.methodLink RL 28 yX7_join ∈ TB := TB_mem 321 (by decide +kernel) rfl
theorem im_X7_join : Cond.instanceMethod yX7_join ∈ TB := TB_mem 322 (by decide +kernel) rfl
theorem se_X7_join : Cond.selects RX7 yX7_join yX7_join ∈ TB := TB_mem 323 (by decide +kernel) rfl
theorem kc_X7_join : Cond.code yX7_join cX7_join 3 (some .int) ∈ TB := TB_mem 324 (by decide +kernel) rfl
theorem ml_X7_98 : Cond.methodLink RX7 98 Lib.Math.min.name ∈ TB := TB_mem 325 (by decide +kernel) rfl
theorem sm_J9_min : Cond.static Lib.Math.min.name ∈ TB := TB_mem 326 (by decide +kernel) rfl
theorem kc_J9_min : Cond.code Lib.Math.min.name Lib.Math.min.code 2 (some .int) ∈ TB := TB_mem 327 (by decide +kernel) rfl
theorem ml_X7_104 : Cond.methodLink RX7 104 Lib.Math.max.name ∈ TB := TB_mem 328 (by decide +kernel) rfl
theorem sm_J9_max : Cond.static Lib.Math.max.name ∈ TB := TB_mem 329 (by decide +kernel) rfl
theorem kc_J9_max : Cond.code Lib.Math.max.name Lib.Math.max.code 2 (some .int) ∈ TB := TB_mem 330 (by decide +kernel) rfl
theorem ml_X7_107 : Cond.methodLink RX7 107 yX3_merge ∈ TB := TB_mem 331 (by decide +kernel) rfl
theorem im_X3_merge : Cond.instanceMethod yX3_merge ∈ TB := TB_mem 332 (by decide +kernel) rfl
theorem se_X3_merge : Cond.selects RX3 yX3_merge yX3_merge ∈ TB := TB_mem 333 (by decide +kernel) rfl
theorem kc_X3_merge : Cond.code yX3_merge cX3_merge 5 none ∈ TB := TB_mem 334 (by decide +kernel) rfl
theorem ml_X3_65 : Cond.methodLink RX3 65 yX3_addInto ∈ TB := TB_mem 335 (by decide +kernel) rfl
theorem im_X3_addInto : Cond.instanceMethod yX3_addInto ∈ TB := TB_mem 337 (by decide +kernel) rfl
theorem kc_X3_addInto : Cond.code yX3_addInto cX3_addInto 3 none ∈ TB := TB_mem 338 (by decide +kernel) rfl
theorem ml_X3_69 : Cond.methodLink RX3 69 Lib.Math.min.name ∈ TB := TB_mem 339 (by decide +kernel) rfl
theorem ml_X3_74 : Cond.methodLink RX3 74 yX3_dropState ∈ TB := TB_mem 340 (by decide +kernel) rfl
theorem im_X3_dropState : Cond.instanceMethod yX3_dropState ∈ TB := TB_mem 341 (by decide +kernel) rfl
theorem se_X3_dropState : Cond.selects RX3 yX3_dropState yX3_dropState ∈ TB := TB_mem 342 (by decide +kernel) rfl
theorem kc_X3_dropState : Cond.code yX3_dropState cX3_dropState 5 none ∈ TB := TB_mem 343 (by decide +kernel) rfl
theorem ml_L_33 : Cond.methodLink RL 33 yX7_removeState ∈ TB := TB_mem 344 (by decide +kernel) rfl
theorem im_X7_removeState : Cond.instanceMethod yX7_removeState ∈ TB := TB_mem 345 (by decide +kernel) rfl
theorem se_X7_removeState : Cond.selects RX7 yX7_removeState yX7_removeState ∈ TB := TB_mem 346 (by decide +kernel) rfl
theorem kc_X7_removeState : Cond.code yX7_removeState cX7_removeState 2 (some .int) ∈ TB := TB_mem 347 (by decide +kernel) rfl
theorem ml_X7_111 : Cond.methodLink RX7 111 yX3_dropState ∈ TB := TB_mem 348 (by decide +kernel) rfl
theorem ml_L_37 : Cond.methodLink RL 37 yX7_setBound ∈ TB := TB_mem 349 (by decide +kernel) rfl
theorem im_X7_setBound : Cond.instanceMethod yX7_setBound ∈ TB := TB_mem 350 (by decide +kernel) rfl
theorem se_X7_setBound : Cond.selects RX7 yX7_setBound yX7_setBound ∈ TB := TB_mem 351 (by decide +kernel) rfl
theorem kc_X7_setBound : Cond.code yX7_setBound cX7_setBound 3 (some .int) ∈ TB := TB_mem 352 (by decide +kernel) rfl
theorem ml_L_41 : Cond.methodLink RL 41 yX7_addSamples ∈ TB := TB_mem 353 (by decide +kernel) rfl
theorem im_X7_addSamples : Cond.instanceMethod yX7_addSamples ∈ TB := TB_mem 354 (by decide +kernel) rfl
theorem se_X7_addSamples : Cond.selects RX7 yX7_addSamples yX7_addSamples ∈ TB := TB_mem 355 (by decide +kernel) rfl
theorem kc_X7_addSamples : Cond.code yX7_addSamples cX7_addSamples 3 (some .int) ∈ TB := TB_mem 356 (by decide +kernel) rfl
theorem ml_X7_117 : Cond.methodLink RX7 117 yX5_fault ∈ TB := TB_mem 357 (by decide +kernel) rfl
theorem im_X5_fault : Cond.instanceMethod yX5_fault ∈ TB := TB_mem 358 (by decide +kernel) rfl
theorem se_X5_fault : Cond.selects RX5 yX5_fault yX5_fault ∈ TB := TB_mem 359 (by decide +kernel) rfl
theorem kc_X5_fault : Cond.code yX5_fault cX5_fault 4 (some .int) ∈ TB := TB_mem 360 (by decide +kernel) rfl
theorem ml_X5_19 : Cond.methodLink RX5 19 yX5_isLetter ∈ TB := TB_mem 361 (by decide +kernel) rfl
theorem sm_X5_isLetter : Cond.static yX5_isLetter ∈ TB := TB_mem 362 (by decide +kernel) rfl
theorem kc_X5_isLetter : Cond.code yX5_isLetter cX5_isLetter 1 (some .boolean) ∈ TB := TB_mem 363 (by decide +kernel) rfl
theorem ml_X7_121 : Cond.methodLink RX7 121 yX5_samples ∈ TB := TB_mem 364 (by decide +kernel) rfl
theorem im_X5_samples : Cond.instanceMethod yX5_samples ∈ TB := TB_mem 365 (by decide +kernel) rfl
theorem se_X5_samples : Cond.selects RX5 yX5_samples yX5_samples ∈ TB := TB_mem 366 (by decide +kernel) rfl
theorem kc_X5_samples : Cond.code yX5_samples cX5_samples 3 (some .int) ∈ TB := TB_mem 367 (by decide +kernel) rfl
theorem ml_X7_126 : Cond.methodLink RX7 126 yX5_appendTo ∈ TB := TB_mem 368 (by decide +kernel) rfl
theorem im_X5_appendTo : Cond.instanceMethod yX5_appendTo ∈ TB := TB_mem 369 (by decide +kernel) rfl
theorem se_X5_appendTo : Cond.selects RX5 yX5_appendTo yX5_appendTo ∈ TB := TB_mem 370 (by decide +kernel) rfl
theorem kc_X5_appendTo : Cond.code yX5_appendTo cX5_appendTo 3 none ∈ TB := TB_mem 371 (by decide +kernel) rfl
theorem ml_X5_23 : Cond.methodLink RX5 23 yX3_beginSample ∈ TB := TB_mem 372 (by decide +kernel) rfl
theorem im_X3_beginSample : Cond.instanceMethod yX3_beginSample ∈ TB := TB_mem 373 (by decide +kernel) rfl
theorem se_X3_beginSample : Cond.selects RX3 yX3_beginSample yX3_beginSample ∈ TB := TB_mem 374 (by decide +kernel) rfl
theorem kc_X3_beginSample : Cond.code yX3_beginSample cX3_beginSample 1 none ∈ TB := TB_mem 375 (by decide +kernel) rfl
theorem ml_X5_28 : Cond.methodLink RX5 28 yX3_appendSign ∈ TB := TB_mem 376 (by decide +kernel) rfl
theorem im_X3_appendSign : Cond.instanceMethod yX3_appendSign ∈ TB := TB_mem 377 (by decide +kernel) rfl
theorem se_X3_appendSign : Cond.selects RX3 yX3_appendSign yX3_appendSign ∈ TB := TB_mem 378 (by decide +kernel) rfl
theorem kc_X3_appendSign : Cond.code yX3_appendSign cX3_appendSign 3 none ∈ TB := TB_mem 379 (by decide +kernel) rfl
theorem ml_L_45 : Cond.methodLink RL 45 yX7_removeSample ∈ TB := TB_mem 380 (by decide +kernel) rfl
theorem im_X7_removeSample : Cond.instanceMethod yX7_removeSample ∈ TB := TB_mem 381 (by decide +kernel) rfl
theorem se_X7_removeSample : Cond.selects RX7 yX7_removeSample yX7_removeSample ∈ TB := TB_mem 382 (by decide +kernel) rfl
theorem kc_X7_removeSample : Cond.code yX7_removeSample cX7_removeSample 2 (some .int) ∈ TB := TB_mem 383 (by decide +kernel) rfl
theorem ml_X7_129 : Cond.methodLink RX7 129 yX3_hasSample ∈ TB := TB_mem 384 (by decide +kernel) rfl
theorem im_X3_hasSample : Cond.instanceMethod yX3_hasSample ∈ TB := TB_mem 385 (by decide +kernel) rfl
theorem se_X3_hasSample : Cond.selects RX3 yX3_hasSample yX3_hasSample ∈ TB := TB_mem 386 (by decide +kernel) rfl
theorem kc_X3_hasSample : Cond.code yX3_hasSample cX3_hasSample 2 (some .boolean) ∈ TB := TB_mem 387 (by decide +kernel) rfl
theorem ml_X7_132 : Cond.methodLink RX7 132 yX3_dropSample ∈ TB := TB_mem 388 (by decide +kernel) rfl
theorem im_X3_dropSample : Cond.instanceMethod yX3_dropSample ∈ TB := TB_mem 389 (by decide +kernel) rfl
theorem se_X3_dropSample : Cond.selects RX3 yX3_dropSample yX3_dropSample ∈ TB := TB_mem 390 (by decide +kernel) rfl
theorem kc_X3_dropSample : Cond.code yX3_dropSample cX3_dropSample 4 none ∈ TB := TB_mem 391 (by decide +kernel) rfl
theorem ml_L_49 : Cond.methodLink RL 49 yX7_learn ∈ TB := TB_mem 392 (by decide +kernel) rfl
theorem im_X7_learn : Cond.instanceMethod yX7_learn ∈ TB := TB_mem 393 (by decide +kernel) rfl
theorem se_X7_learn : Cond.selects RX7 yX7_learn yX7_learn ∈ TB := TB_mem 394 (by decide +kernel) rfl
theorem kc_X7_learn : Cond.code yX7_learn cX7_learn 4 (some .int) ∈ TB := TB_mem 395 (by decide +kernel) rfl
theorem ml_X7_135 : Cond.methodLink RX7 135 yX2_prepareRound ∈ TB := TB_mem 396 (by decide +kernel) rfl
theorem im_X2_prepareRound : Cond.instanceMethod yX2_prepareRound ∈ TB := TB_mem 397 (by decide +kernel) rfl
theorem se_X2_prepareRound : Cond.selects RX2 yX2_prepareRound yX2_prepareRound ∈ TB := TB_mem 398 (by decide +kernel) rfl
theorem kc_X2_prepareRound : Cond.code yX2_prepareRound cX2_prepareRound 2 (some .boolean) ∈ TB := TB_mem 399 (by decide +kernel) rfl
theorem ml_X2_28 : Cond.methodLink RX2 28 yJ7_fill_53178 ∈ TB := TB_mem 400 (by decide +kernel) rfl
theorem sm_J7_fill_53178 : Cond.static yJ7_fill_53178 ∈ TB := TB_mem 401 (by decide +kernel) rfl
theorem kc_J7_fill_53178 : Cond.code yJ7_fill_53178 cJ7_fill_53178 4 none ∈ TB := TB_mem 402 (by decide +kernel) rfl
theorem ml_X2_38 : Cond.methodLink RX2 38 yX6_read ∈ TB := TB_mem 403 (by decide +kernel) rfl
theorem im_X6_read : Cond.instanceMethod yX6_read ∈ TB := TB_mem 404 (by decide +kernel) rfl
theorem se_X6_read : Cond.selects RX6 yX6_read yX6_read ∈ TB := TB_mem 405 (by decide +kernel) rfl
theorem kc_X6_read : Cond.code yX6_read cX6_read 4 none ∈ TB := TB_mem 406 (by decide +kernel) rfl
theorem ml_X6_38 : Cond.methodLink RX6 38 yX6_aheadOf ∈ TB := TB_mem 407 (by decide +kernel) rfl
theorem im_X6_aheadOf : Cond.instanceMethod yX6_aheadOf ∈ TB := TB_mem 409 (by decide +kernel) rfl
theorem kc_X6_aheadOf : Cond.code yX6_aheadOf cX6_aheadOf 6 (some .long) ∈ TB := TB_mem 410 (by decide +kernel) rfl
theorem ml_X6_52 : Cond.methodLink RX6 52 yX3_begin ∈ TB := TB_mem 411 (by decide +kernel) rfl
theorem im_X3_begin : Cond.instanceMethod yX3_begin ∈ TB := TB_mem 412 (by decide +kernel) rfl
theorem se_X3_begin : Cond.selects RX3 yX3_begin yX3_begin ∈ TB := TB_mem 413 (by decide +kernel) rfl
theorem kc_X3_begin : Cond.code yX3_begin cX3_begin 2 (some .int) ∈ TB := TB_mem 414 (by decide +kernel) rfl
theorem ml_X6_56 : Cond.methodLink RX6 56 yX3_go ∈ TB := TB_mem 415 (by decide +kernel) rfl
theorem ml_X6_60 : Cond.methodLink RX6 60 yX3_showAt ∈ TB := TB_mem 416 (by decide +kernel) rfl
theorem im_X3_showAt : Cond.instanceMethod yX3_showAt ∈ TB := TB_mem 417 (by decide +kernel) rfl
theorem se_X3_showAt : Cond.selects RX3 yX3_showAt yX3_showAt ∈ TB := TB_mem 418 (by decide +kernel) rfl
theorem kc_X3_showAt : Cond.code yX3_showAt cX3_showAt 4 (some .int) ∈ TB := TB_mem 419 (by decide +kernel) rfl
theorem ml_X3_52 : Cond.methodLink RX3 52 yX3_signAt ∈ TB := TB_mem 420 (by decide +kernel) rfl
theorem im_X3_signAt : Cond.instanceMethod yX3_signAt ∈ TB := TB_mem 421 (by decide +kernel) rfl
theorem se_X3_signAt : Cond.selects RX3 yX3_signAt yX3_signAt ∈ TB := TB_mem 422 (by decide +kernel) rfl
theorem kc_X3_signAt : Cond.code yX3_signAt cX3_signAt 3 (some .int) ∈ TB := TB_mem 423 (by decide +kernel) rfl
theorem ml_X3_56 : Cond.methodLink RX3 56 yX3_show ∈ TB := TB_mem 424 (by decide +kernel) rfl
theorem im_X3_show : Cond.instanceMethod yX3_show ∈ TB := TB_mem 425 (by decide +kernel) rfl
theorem se_X3_show : Cond.selects RX3 yX3_show yX3_show ∈ TB := TB_mem 426 (by decide +kernel) rfl
theorem kc_X3_show : Cond.code yX3_show cX3_show 3 (some .int) ∈ TB := TB_mem 427 (by decide +kernel) rfl
theorem ml_X6_42 : Cond.methodLink RX6 42 yX6_behindOf ∈ TB := TB_mem 428 (by decide +kernel) rfl
theorem im_X6_behindOf : Cond.instanceMethod yX6_behindOf ∈ TB := TB_mem 430 (by decide +kernel) rfl
theorem kc_X6_behindOf : Cond.code yX6_behindOf cX6_behindOf 6 (some .long) ∈ TB := TB_mem 431 (by decide +kernel) rfl
theorem ml_X6_64 : Cond.methodLink RX6 64 yX6_stepBehind ∈ TB := TB_mem 432 (by decide +kernel) rfl
theorem im_X6_stepBehind : Cond.instanceMethod yX6_stepBehind ∈ TB := TB_mem 434 (by decide +kernel) rfl
theorem kc_X6_stepBehind : Cond.code yX6_stepBehind cX6_stepBehind 6 (some .long) ∈ TB := TB_mem 435 (by decide +kernel) rfl
theorem ml_X6_49 : Cond.methodLink RX6 49 yX6_at ∈ TB := TB_mem 436 (by decide +kernel) rfl
theorem im_X6_at : Cond.instanceMethod yX6_at ∈ TB := TB_mem 437 (by decide +kernel) rfl
theorem se_X6_at : Cond.selects RX6 yX6_at yX6_at ∈ TB := TB_mem 438 (by decide +kernel) rfl
theorem kc_X6_at : Cond.code yX6_at cX6_at 4 (some .long) ∈ TB := TB_mem 439 (by decide +kernel) rfl
theorem ml_X2_48 : Cond.methodLink RX2 48 yX2_countSample ∈ TB := TB_mem 440 (by decide +kernel) rfl
theorem im_X2_countSample : Cond.instanceMethod yX2_countSample ∈ TB := TB_mem 442 (by decide +kernel) rfl
theorem kc_X2_countSample : Cond.code yX2_countSample cX2_countSample 3 none ∈ TB := TB_mem 443 (by decide +kernel) rfl
theorem ml_X2_71 : Cond.methodLink RX2 71 yX3_cellOf ∈ TB := TB_mem 444 (by decide +kernel) rfl
theorem ml_X2_75 : Cond.methodLink RX2 75 yX6_at ∈ TB := TB_mem 445 (by decide +kernel) rfl
theorem ml_X2_79 : Cond.methodLink RX2 79 yX2_addCount ∈ TB := TB_mem 446 (by decide +kernel) rfl
theorem im_X2_addCount : Cond.instanceMethod yX2_addCount ∈ TB := TB_mem 448 (by decide +kernel) rfl
theorem kc_X2_addCount : Cond.code yX2_addCount cX2_addCount 4 none ∈ TB := TB_mem 449 (by decide +kernel) rfl
theorem ml_X2_89 : Cond.methodLinkNest RX2 89 yX7_shareOf "HiddenRuns" ∈ nestW := NW_mem 450 (by decide +kernel) rfl
theorem sm_X7_shareOf : Cond.static yX7_shareOf ∈ TB := TB_mem 451 (by decide +kernel) rfl
theorem kc_X7_shareOf : Cond.code yX7_shareOf cX7_shareOf 9 (some .int) ∈ TB := TB_mem 452 (by decide +kernel) rfl
theorem ko_X7_229 : Cond.constantLong RX7 229 (10) ∈ TB := TB_mem 453 (by decide +kernel) rfl
theorem ml_X2_83 : Cond.methodLink RX2 83 yX6_goingOn ∈ TB := TB_mem 454 (by decide +kernel) rfl
theorem im_X6_goingOn : Cond.instanceMethod yX6_goingOn ∈ TB := TB_mem 455 (by decide +kernel) rfl
theorem se_X6_goingOn : Cond.selects RX6 yX6_goingOn yX6_goingOn ∈ TB := TB_mem 456 (by decide +kernel) rfl
theorem kc_X6_goingOn : Cond.code yX6_goingOn cX6_goingOn 6 (some .long) ∈ TB := TB_mem 457 (by decide +kernel) rfl
theorem ml_X2_86 : Cond.methodLink RX2 86 yX6_showing ∈ TB := TB_mem 458 (by decide +kernel) rfl
theorem im_X6_showing : Cond.instanceMethod yX6_showing ∈ TB := TB_mem 459 (by decide +kernel) rfl
theorem se_X6_showing : Cond.selects RX6 yX6_showing yX6_showing ∈ TB := TB_mem 460 (by decide +kernel) rfl
theorem kc_X6_showing : Cond.code yX6_showing cX6_showing 6 (some .long) ∈ TB := TB_mem 461 (by decide +kernel) rfl
theorem ml_X6_68 : Cond.methodLink RX6 68 yX3_signAt ∈ TB := TB_mem 462 (by decide +kernel) rfl
theorem ml_X2_54 : Cond.methodLink RX2 54 arraycopyName ∈ TB := TB_mem 463 (by decide +kernel) rfl
theorem ml_X2_60 : Cond.methodLink RX2 60 yX2_makeFamily ∈ TB := TB_mem 464 (by decide +kernel) rfl
theorem im_X2_makeFamily : Cond.instanceMethod yX2_makeFamily ∈ TB := TB_mem 466 (by decide +kernel) rfl
theorem kc_X2_makeFamily : Cond.code yX2_makeFamily cX2_makeFamily 7 none ∈ TB := TB_mem 467 (by decide +kernel) rfl
theorem ml_X2_93 : Cond.methodLink RX2 93 yX3_familySize ∈ TB := TB_mem 468 (by decide +kernel) rfl
theorem ml_X2_97 : Cond.methodLink RX2 97 yX3_memberCell ∈ TB := TB_mem 469 (by decide +kernel) rfl
theorem sm_X3_memberCell : Cond.static yX3_memberCell ∈ TB := TB_mem 470 (by decide +kernel) rfl
theorem kc_X3_memberCell : Cond.code yX3_memberCell cX3_memberCell 3 (some .int) ∈ TB := TB_mem 471 (by decide +kernel) rfl
theorem ml_X2_100 : Cond.methodLink RX2 100 Lib.Math.max.name ∈ TB := TB_mem 472 (by decide +kernel) rfl
theorem ml_X2_67 : Cond.methodLink RX2 67 yX2_differs ∈ TB := TB_mem 473 (by decide +kernel) rfl
theorem im_X2_differs : Cond.instanceMethod yX2_differs ∈ TB := TB_mem 475 (by decide +kernel) rfl
theorem kc_X2_differs : Cond.code yX2_differs cX2_differs 2 (some .boolean) ∈ TB := TB_mem 476 (by decide +kernel) rfl
theorem ml_X7_139 : Cond.methodLink RX7 139 yX2_finishRound ∈ TB := TB_mem 477 (by decide +kernel) rfl
theorem im_X2_finishRound : Cond.instanceMethod yX2_finishRound ∈ TB := TB_mem 478 (by decide +kernel) rfl
theorem se_X2_finishRound : Cond.selects RX2 yX2_finishRound yX2_finishRound ∈ TB := TB_mem 479 (by decide +kernel) rfl
theorem kc_X2_finishRound : Cond.code yX2_finishRound cX2_finishRound 1 none ∈ TB := TB_mem 480 (by decide +kernel) rfl
theorem ml_L_53 : Cond.methodLink RL 53 yX7_type ∈ TB := TB_mem 481 (by decide +kernel) rfl
theorem im_X7_type : Cond.instanceMethod yX7_type ∈ TB := TB_mem 482 (by decide +kernel) rfl
theorem se_X7_type : Cond.selects RX7 yX7_type yX7_type ∈ TB := TB_mem 483 (by decide +kernel) rfl
theorem kc_X7_type : Cond.code yX7_type cX7_type 2 (some .int) ∈ TB := TB_mem 484 (by decide +kernel) rfl
theorem ml_X7_145 : Cond.methodLink RX7 145 yX5_append ∈ TB := TB_mem 485 (by decide +kernel) rfl
theorem im_X5_append : Cond.instanceMethod yX5_append ∈ TB := TB_mem 486 (by decide +kernel) rfl
theorem se_X5_append : Cond.selects RX5 yX5_append yX5_append ∈ TB := TB_mem 487 (by decide +kernel) rfl
theorem kc_X5_append : Cond.code yX5_append cX5_append 2 none ∈ TB := TB_mem 488 (by decide +kernel) rfl
theorem ml_L_58 : Cond.methodLink RL 58 yX7_clearText ∈ TB := TB_mem 489 (by decide +kernel) rfl
theorem im_X7_clearText : Cond.instanceMethod yX7_clearText ∈ TB := TB_mem 490 (by decide +kernel) rfl
theorem se_X7_clearText : Cond.selects RX7 yX7_clearText yX7_clearText ∈ TB := TB_mem 491 (by decide +kernel) rfl
theorem kc_X7_clearText : Cond.code yX7_clearText cX7_clearText 2 (some .int) ∈ TB := TB_mem 492 (by decide +kernel) rfl
theorem ml_X7_149 : Cond.methodLink RX7 149 yX5_empty ∈ TB := TB_mem 493 (by decide +kernel) rfl
theorem im_X5_empty : Cond.instanceMethod yX5_empty ∈ TB := TB_mem 494 (by decide +kernel) rfl
theorem se_X5_empty : Cond.selects RX5 yX5_empty yX5_empty ∈ TB := TB_mem 495 (by decide +kernel) rfl
theorem kc_X5_empty : Cond.code yX5_empty cX5_empty 1 none ∈ TB := TB_mem 496 (by decide +kernel) rfl
theorem ml_L_62 : Cond.methodLink RL 62 yX7_undo ∈ TB := TB_mem 497 (by decide +kernel) rfl
theorem im_X7_undo : Cond.instanceMethod yX7_undo ∈ TB := TB_mem 498 (by decide +kernel) rfl
theorem se_X7_undo : Cond.selects RX7 yX7_undo yX7_undo ∈ TB := TB_mem 499 (by decide +kernel) rfl
theorem kc_X7_undo : Cond.code yX7_undo cX7_undo 1 (some .int) ∈ TB := TB_mem 500 (by decide +kernel) rfl
theorem ml_X7_155 : Cond.methodLink RX7 155 yX1_takeLatest ∈ TB := TB_mem 501 (by decide +kernel) rfl
theorem im_X1_takeLatest : Cond.instanceMethod yX1_takeLatest ∈ TB := TB_mem 502 (by decide +kernel) rfl
theorem se_X1_takeLatest : Cond.selects RX1 yX1_takeLatest yX1_takeLatest ∈ TB := TB_mem 503 (by decide +kernel) rfl
theorem kc_X1_takeLatest : Cond.code yX1_takeLatest cX1_takeLatest 2 none ∈ TB := TB_mem 504 (by decide +kernel) rfl
theorem ml_L_66 : Cond.methodLink RL 66 yX7_keep ∈ TB := TB_mem 505 (by decide +kernel) rfl
theorem im_X7_keep : Cond.instanceMethod yX7_keep ∈ TB := TB_mem 506 (by decide +kernel) rfl
theorem se_X7_keep : Cond.selects RX7 yX7_keep yX7_keep ∈ TB := TB_mem 507 (by decide +kernel) rfl
theorem kc_X7_keep : Cond.code yX7_keep cX7_keep 1 (some .int) ∈ TB := TB_mem 508 (by decide +kernel) rfl
theorem ml_X7_158 : Cond.methodLink RX7 158 yX3_copyFrom ∈ TB := TB_mem 509 (by decide +kernel) rfl
theorem ml_L_70 : Cond.methodLink RL 70 yX7_restore ∈ TB := TB_mem 510 (by decide +kernel) rfl
theorem im_X7_restore : Cond.instanceMethod yX7_restore ∈ TB := TB_mem 511 (by decide +kernel) rfl
theorem se_X7_restore : Cond.selects RX7 yX7_restore yX7_restore ∈ TB := TB_mem 512 (by decide +kernel) rfl
theorem kc_X7_restore : Cond.code yX7_restore cX7_restore 1 (some .int) ∈ TB := TB_mem 513 (by decide +kernel) rfl
theorem ml_L_74 : Cond.methodLink RL 74 yX7_weight ∈ TB := TB_mem 514 (by decide +kernel) rfl
theorem im_X7_weight : Cond.instanceMethod yX7_weight ∈ TB := TB_mem 515 (by decide +kernel) rfl
theorem se_X7_weight : Cond.selects RX7 yX7_weight yX7_weight ∈ TB := TB_mem 516 (by decide +kernel) rfl
theorem kc_X7_weight : Cond.code yX7_weight cX7_weight 5 (some .int) ∈ TB := TB_mem 517 (by decide +kernel) rfl
theorem ml_X7_165 : Cond.methodLink RX7 165 yX3_oddsOf ∈ TB := TB_mem 518 (by decide +kernel) rfl
theorem im_X3_oddsOf : Cond.instanceMethod yX3_oddsOf ∈ TB := TB_mem 519 (by decide +kernel) rfl
theorem se_X3_oddsOf : Cond.selects RX3 yX3_oddsOf yX3_oddsOf ∈ TB := TB_mem 520 (by decide +kernel) rfl
theorem kc_X3_oddsOf : Cond.code yX3_oddsOf cX3_oddsOf 12 (some .int) ∈ TB := TB_mem 521 (by decide +kernel) rfl
theorem ml_X3_59 : Cond.methodLink RX3 59 yX3_memberCell ∈ TB := TB_mem 522 (by decide +kernel) rfl
theorem ml_L_79 : Cond.methodLink RL 79 yX7_sign ∈ TB := TB_mem 523 (by decide +kernel) rfl
theorem im_X7_sign : Cond.instanceMethod yX7_sign ∈ TB := TB_mem 524 (by decide +kernel) rfl
theorem se_X7_sign : Cond.selects RX7 yX7_sign yX7_sign ∈ TB := TB_mem 525 (by decide +kernel) rfl
theorem kc_X7_sign : Cond.code yX7_sign cX7_sign 3 (some .int) ∈ TB := TB_mem 526 (by decide +kernel) rfl
theorem ml_X7_168 : Cond.methodLink RX7 168 yX3_hasPlace ∈ TB := TB_mem 527 (by decide +kernel) rfl
theorem im_X3_hasPlace : Cond.instanceMethod yX3_hasPlace ∈ TB := TB_mem 528 (by decide +kernel) rfl
theorem se_X3_hasPlace : Cond.selects RX3 yX3_hasPlace yX3_hasPlace ∈ TB := TB_mem 529 (by decide +kernel) rfl
theorem kc_X3_hasPlace : Cond.code yX3_hasPlace cX3_hasPlace 3 (some .boolean) ∈ TB := TB_mem 530 (by decide +kernel) rfl
theorem ml_X3_37 : Cond.methodLink RX3 37 yX3_hasSample ∈ TB := TB_mem 531 (by decide +kernel) rfl
theorem ml_X7_172 : Cond.methodLink RX7 172 yX3_signAt ∈ TB := TB_mem 532 (by decide +kernel) rfl
theorem ml_L_83 : Cond.methodLink RL 83 yX7_ofSample ∈ TB := TB_mem 533 (by decide +kernel) rfl
theorem im_X7_ofSample : Cond.instanceMethod yX7_ofSample ∈ TB := TB_mem 534 (by decide +kernel) rfl
theorem se_X7_ofSample : Cond.selects RX7 yX7_ofSample yX7_ofSample ∈ TB := TB_mem 535 (by decide +kernel) rfl
theorem kc_X7_ofSample : Cond.code yX7_ofSample cX7_ofSample 3 (some .long) ∈ TB := TB_mem 536 (by decide +kernel) rfl
theorem ko_X7_175 : Cond.constantLong RX7 175 (-1) ∈ TB := TB_mem 537 (by decide +kernel) rfl
theorem ml_X7_177 : Cond.methodLink RX7 177 yX6_read ∈ TB := TB_mem 538 (by decide +kernel) rfl
theorem ml_X7_184 : Cond.methodLink RX7 184 yX4_read ∈ TB := TB_mem 539 (by decide +kernel) rfl
theorem im_X4_read : Cond.instanceMethod yX4_read ∈ TB := TB_mem 540 (by decide +kernel) rfl
theorem se_X4_read : Cond.selects RX4 yX4_read yX4_read ∈ TB := TB_mem 541 (by decide +kernel) rfl
theorem kc_X4_read : Cond.code yX4_read cX4_read 7 none ∈ TB := TB_mem 542 (by decide +kernel) rfl
theorem ml_X4_28 : Cond.methodLink RX4 28 yX4_partsBehind ∈ TB := TB_mem 543 (by decide +kernel) rfl
theorem im_X4_partsBehind : Cond.instanceMethod yX4_partsBehind ∈ TB := TB_mem 545 (by decide +kernel) rfl
theorem kc_X4_partsBehind : Cond.code yX4_partsBehind cX4_partsBehind 5 (some .int) ∈ TB := TB_mem 546 (by decide +kernel) rfl
theorem ml_X4_39 : Cond.methodLink RX4 39 yX4_entering ∈ TB := TB_mem 547 (by decide +kernel) rfl
theorem im_X4_entering : Cond.instanceMethod yX4_entering ∈ TB := TB_mem 549 (by decide +kernel) rfl
theorem kc_X4_entering : Cond.code yX4_entering cX4_entering 5 (some .int) ∈ TB := TB_mem 550 (by decide +kernel) rfl
theorem ml_X4_42 : Cond.methodLink RX4 42 yX3_begin ∈ TB := TB_mem 551 (by decide +kernel) rfl
theorem ml_X4_46 : Cond.methodLink RX4 46 yX3_go ∈ TB := TB_mem 552 (by decide +kernel) rfl
theorem ml_X4_32 : Cond.methodLink RX4 32 yX3_showAt ∈ TB := TB_mem 553 (by decide +kernel) rfl
theorem ml_X7_186 : Cond.methodLink RX7 186 yX0_read ∈ TB := TB_mem 554 (by decide +kernel) rfl
theorem im_X0_read : Cond.instanceMethod yX0_read ∈ TB := TB_mem 555 (by decide +kernel) rfl
theorem se_X0_read : Cond.selects RX0 yX0_read yX0_read ∈ TB := TB_mem 556 (by decide +kernel) rfl
theorem kc_X0_read : Cond.code yX0_read cX0_read 7 none ∈ TB := TB_mem 557 (by decide +kernel) rfl
theorem ml_X0_32 : Cond.methodLink RX0 32 yX0_nextOf ∈ TB := TB_mem 558 (by decide +kernel) rfl
theorem im_X0_nextOf : Cond.instanceMethod yX0_nextOf ∈ TB := TB_mem 560 (by decide +kernel) rfl
theorem kc_X0_nextOf : Cond.code yX0_nextOf cX0_nextOf 5 (some .int) ∈ TB := TB_mem 561 (by decide +kernel) rfl
theorem ml_X0_36 : Cond.methodLink RX0 36 yX0_going ∈ TB := TB_mem 562 (by decide +kernel) rfl
theorem im_X0_going : Cond.instanceMethod yX0_going ∈ TB := TB_mem 564 (by decide +kernel) rfl
theorem kc_X0_going : Cond.code yX0_going cX0_going 4 (some .long) ∈ TB := TB_mem 565 (by decide +kernel) rfl
theorem ml_X0_60 : Cond.methodLink RX0 60 yX3_go ∈ TB := TB_mem 566 (by decide +kernel) rfl
theorem ml_X0_40 : Cond.methodLink RX0 40 yX3_showAt ∈ TB := TB_mem 567 (by decide +kernel) rfl
theorem ml_X0_44 : Cond.methodLink RX0 44 yX0_firstOf ∈ TB := TB_mem 568 (by decide +kernel) rfl
theorem im_X0_firstOf : Cond.instanceMethod yX0_firstOf ∈ TB := TB_mem 570 (by decide +kernel) rfl
theorem kc_X0_firstOf : Cond.code yX0_firstOf cX0_firstOf 3 (some .int) ∈ TB := TB_mem 571 (by decide +kernel) rfl
theorem ml_X0_48 : Cond.methodLink RX0 48 yX0_beginning ∈ TB := TB_mem 572 (by decide +kernel) rfl
theorem im_X0_beginning : Cond.instanceMethod yX0_beginning ∈ TB := TB_mem 574 (by decide +kernel) rfl
theorem kc_X0_beginning : Cond.code yX0_beginning cX0_beginning 2 (some .long) ∈ TB := TB_mem 575 (by decide +kernel) rfl
theorem ml_X0_56 : Cond.methodLink RX0 56 yX3_begin ∈ TB := TB_mem 576 (by decide +kernel) rfl
theorem ko_X7_190 : Cond.constantLong RX7 190 (-2) ∈ TB := TB_mem 577 (by decide +kernel) rfl
theorem ml_L_88 : Cond.methodLink RL 88 yX7_best ∈ TB := TB_mem 578 (by decide +kernel) rfl
theorem im_X7_best : Cond.instanceMethod yX7_best ∈ TB := TB_mem 579 (by decide +kernel) rfl
theorem se_X7_best : Cond.selects RX7 yX7_best yX7_best ∈ TB := TB_mem 580 (by decide +kernel) rfl
theorem kc_X7_best : Cond.code yX7_best cX7_best 3 (some .int) ∈ TB := TB_mem 581 (by decide +kernel) rfl
theorem ml_L_92 : Cond.methodLink RL 92 yX7_share ∈ TB := TB_mem 582 (by decide +kernel) rfl
theorem im_X7_share : Cond.instanceMethod yX7_share ∈ TB := TB_mem 583 (by decide +kernel) rfl
theorem se_X7_share : Cond.selects RX7 yX7_share yX7_share ∈ TB := TB_mem 584 (by decide +kernel) rfl
theorem kc_X7_share : Cond.code yX7_share cX7_share 4 (some .int) ∈ TB := TB_mem 585 (by decide +kernel) rfl
theorem ml_X7_195 : Cond.methodLink RX7 195 yX6_at ∈ TB := TB_mem 586 (by decide +kernel) rfl
theorem ml_X7_199 : Cond.methodLink RX7 199 yX7_shareOf ∈ TB := TB_mem 587 (by decide +kernel) rfl
theorem ml_L_97 : Cond.methodLink RL 97 yX7_likeliest ∈ TB := TB_mem 588 (by decide +kernel) rfl
theorem im_X7_likeliest : Cond.instanceMethod yX7_likeliest ∈ TB := TB_mem 589 (by decide +kernel) rfl
theorem se_X7_likeliest : Cond.selects RX7 yX7_likeliest yX7_likeliest ∈ TB := TB_mem 590 (by decide +kernel) rfl
theorem kc_X7_likeliest : Cond.code yX7_likeliest cX7_likeliest 3 (some .int) ∈ TB := TB_mem 591 (by decide +kernel) rfl
theorem ml_X7_203 : Cond.methodLink RX7 203 yX6_likeliestAt ∈ TB := TB_mem 592 (by decide +kernel) rfl
theorem im_X6_likeliestAt : Cond.instanceMethod yX6_likeliestAt ∈ TB := TB_mem 593 (by decide +kernel) rfl
theorem se_X6_likeliestAt : Cond.selects RX6 yX6_likeliestAt yX6_likeliestAt ∈ TB := TB_mem 594 (by decide +kernel) rfl
theorem kc_X6_likeliestAt : Cond.code yX6_likeliestAt cX6_likeliestAt 4 (some .int) ∈ TB := TB_mem 595 (by decide +kernel) rfl
theorem ml_L_101 : Cond.methodLink RL 101 yX7_doubtful ∈ TB := TB_mem 596 (by decide +kernel) rfl
theorem im_X7_doubtful : Cond.instanceMethod yX7_doubtful ∈ TB := TB_mem 597 (by decide +kernel) rfl
theorem se_X7_doubtful : Cond.selects RX7 yX7_doubtful yX7_doubtful ∈ TB := TB_mem 598 (by decide +kernel) rfl
theorem kc_X7_doubtful : Cond.code yX7_doubtful cX7_doubtful 2 (some .int) ∈ TB := TB_mem 599 (by decide +kernel) rfl
theorem ml_X7_207 : Cond.methodLink RX7 207 yX6_doubtfulPlaces ∈ TB := TB_mem 600 (by decide +kernel) rfl
theorem im_X6_doubtfulPlaces : Cond.instanceMethod yX6_doubtfulPlaces ∈ TB := TB_mem 601 (by decide +kernel) rfl
theorem se_X6_doubtfulPlaces : Cond.selects RX6 yX6_doubtfulPlaces yX6_doubtfulPlaces ∈ TB := TB_mem 602 (by decide +kernel) rfl
theorem kc_X6_doubtfulPlaces : Cond.code yX6_doubtfulPlaces cX6_doubtfulPlaces 3 (some .int) ∈ TB := TB_mem 603 (by decide +kernel) rfl
theorem ml_X6_74 : Cond.methodLink RX6 74 yX6_likeliestAt ∈ TB := TB_mem 604 (by decide +kernel) rfl
theorem ml_X6_77 : Cond.methodLinkNest RX6 77 yX7_shareOf "HiddenRuns" ∈ nestW := NW_mem 605 (by decide +kernel) rfl
theorem ml_L_105 : Cond.methodLink RL 105 yX7_run ∈ TB := TB_mem 606 (by decide +kernel) rfl
theorem im_X7_run : Cond.instanceMethod yX7_run ∈ TB := TB_mem 607 (by decide +kernel) rfl
theorem se_X7_run : Cond.selects RX7 yX7_run yX7_run ∈ TB := TB_mem 608 (by decide +kernel) rfl
theorem kc_X7_run : Cond.code yX7_run cX7_run 4 (some .int) ∈ TB := TB_mem 609 (by decide +kernel) rfl
theorem ml_X7_210 : Cond.methodLink RX7 210 yX4_stateAt ∈ TB := TB_mem 610 (by decide +kernel) rfl
theorem im_X4_stateAt : Cond.instanceMethod yX4_stateAt ∈ TB := TB_mem 611 (by decide +kernel) rfl
theorem se_X4_stateAt : Cond.selects RX4 yX4_stateAt yX4_stateAt ∈ TB := TB_mem 612 (by decide +kernel) rfl
theorem kc_X4_stateAt : Cond.code yX4_stateAt cX4_stateAt 7 (some .int) ∈ TB := TB_mem 613 (by decide +kernel) rfl
theorem ml_L_109 : Cond.methodLink RL 109 yX7_next ∈ TB := TB_mem 614 (by decide +kernel) rfl
theorem im_X7_next : Cond.instanceMethod yX7_next ∈ TB := TB_mem 615 (by decide +kernel) rfl
theorem se_X7_next : Cond.selects RX7 yX7_next yX7_next ∈ TB := TB_mem 616 (by decide +kernel) rfl
theorem kc_X7_next : Cond.code yX7_next cX7_next 6 (some .int) ∈ TB := TB_mem 617 (by decide +kernel) rfl
theorem ml_X7_213 : Cond.methodLink RX7 213 yX6_behindLast ∈ TB := TB_mem 618 (by decide +kernel) rfl
theorem im_X6_behindLast : Cond.instanceMethod yX6_behindLast ∈ TB := TB_mem 619 (by decide +kernel) rfl
theorem se_X6_behindLast : Cond.selects RX6 yX6_behindLast yX6_behindLast ∈ TB := TB_mem 620 (by decide +kernel) rfl
theorem kc_X6_behindLast : Cond.code yX6_behindLast cX6_behindLast 8 (some .long) ∈ TB := TB_mem 621 (by decide +kernel) rfl
theorem ml_X6_71 : Cond.methodLink RX6 71 yX3_show ∈ TB := TB_mem 622 (by decide +kernel) rfl
theorem ml_L_113 : Cond.methodLink RL 113 yX7_count ∈ TB := TB_mem 623 (by decide +kernel) rfl
theorem im_X7_count : Cond.instanceMethod yX7_count ∈ TB := TB_mem 624 (by decide +kernel) rfl
theorem se_X7_count : Cond.selects RX7 yX7_count yX7_count ∈ TB := TB_mem 625 (by decide +kernel) rfl
theorem kc_X7_count : Cond.code yX7_count cX7_count 2 (some .int) ∈ TB := TB_mem 626 (by decide +kernel) rfl
theorem ml_X7_217 : Cond.methodLink RX7 217 yX3_allSigns ∈ TB := TB_mem 627 (by decide +kernel) rfl
theorem im_X3_allSigns : Cond.instanceMethod yX3_allSigns ∈ TB := TB_mem 628 (by decide +kernel) rfl
theorem se_X3_allSigns : Cond.selects RX3 yX3_allSigns yX3_allSigns ∈ TB := TB_mem 629 (by decide +kernel) rfl
theorem kc_X3_allSigns : Cond.code yX3_allSigns cX3_allSigns 3 (some .int) ∈ TB := TB_mem 630 (by decide +kernel) rfl
theorem ml_X7_220 : Cond.methodLink RX7 220 yX7_allDoubtful ∈ TB := TB_mem 631 (by decide +kernel) rfl
theorem im_X7_allDoubtful : Cond.instanceMethod yX7_allDoubtful ∈ TB := TB_mem 633 (by decide +kernel) rfl
theorem kc_X7_allDoubtful : Cond.code yX7_allDoubtful cX7_allDoubtful 3 (some .int) ∈ TB := TB_mem 634 (by decide +kernel) rfl
theorem ml_X7_231 : Cond.methodLink RX7 231 yJ6_bitCount_0f7a4 ∈ TB := TB_mem 635 (by decide +kernel) rfl
theorem sm_J6_bitCount_0f7a4 : Cond.static yJ6_bitCount_0f7a4 ∈ TB := TB_mem 636 (by decide +kernel) rfl
theorem kc_J6_bitCount_0f7a4 : Cond.code yJ6_bitCount_0f7a4 cJ6_bitCount_0f7a4 1 (some .int) ∈ TB := TB_mem 637 (by decide +kernel) rfl
theorem ko_J6_265 : Cond.constant RJ6 265 (1431655765) ∈ TB := TB_mem 638 (by decide +kernel) rfl
theorem ko_J6_266 : Cond.constant RJ6 266 (858993459) ∈ TB := TB_mem 639 (by decide +kernel) rfl
theorem ko_J6_267 : Cond.constant RJ6 267 (252645135) ∈ TB := TB_mem 640 (by decide +kernel) rfl
theorem ml_X7_223 : Cond.methodLink RX7 223 yX7_samplesWithoutTotal ∈ TB := TB_mem 641 (by decide +kernel) rfl
theorem im_X7_samplesWithoutTotal : Cond.instanceMethod yX7_samplesWithoutTotal ∈ TB := TB_mem 643 (by decide +kernel) rfl
theorem kc_X7_samplesWithoutTotal : Cond.code yX7_samplesWithoutTotal cX7_samplesWithoutTotal 3 (some .int) ∈ TB := TB_mem 644 (by decide +kernel) rfl
theorem ml_X7_226 : Cond.methodLink RX7 226 yX7_placesOffBest ∈ TB := TB_mem 645 (by decide +kernel) rfl
theorem im_X7_placesOffBest : Cond.instanceMethod yX7_placesOffBest ∈ TB := TB_mem 647 (by decide +kernel) rfl
theorem kc_X7_placesOffBest : Cond.code yX7_placesOffBest cX7_placesOffBest 3 (some .int) ∈ TB := TB_mem 648 (by decide +kernel) rfl
theorem ml_X7_239 : Cond.methodLink RX7 239 yX7_placesOffPath ∈ TB := TB_mem 649 (by decide +kernel) rfl
theorem im_X7_placesOffPath : Cond.instanceMethod yX7_placesOffPath ∈ TB := TB_mem 651 (by decide +kernel) rfl
theorem kc_X7_placesOffPath : Cond.code yX7_placesOffPath cX7_placesOffPath 4 (some .int) ∈ TB := TB_mem 652 (by decide +kernel) rfl
theorem cl_L_10 : Cond.classLink RL 10 RX8 ∈ TB := TB_mem 653 (by decide +kernel) rfl
theorem ib_X8 : Cond.instantiable RX8 20 ∈ TB := TB_mem 654 (by decide +kernel) rfl
theorem ml_L_12 : Cond.methodLink RL 12 yX8_init ∈ TB := TB_mem 655 (by decide +kernel) rfl
theorem im_X8_init : Cond.instanceMethod yX8_init ∈ TB := TB_mem 656 (by decide +kernel) rfl
theorem kc_X8_init : Cond.code yX8_init cX8_init 2 none ∈ TB := TB_mem 657 (by decide +kernel) rfl
theorem ml_X8_1 : Cond.methodLink RX8 1 objectInit ∈ TB := TB_mem 658 (by decide +kernel) rfl
theorem ml_X8_54 : Cond.methodLink RX8 54 yX8_fills ∈ TB := TB_mem 659 (by decide +kernel) rfl
theorem im_X8_fills : Cond.instanceMethod yX8_fills ∈ TB := TB_mem 661 (by decide +kernel) rfl
theorem kc_X8_fills : Cond.code yX8_fills cX8_fills 3 none ∈ TB := TB_mem 662 (by decide +kernel) rfl
theorem fl_X8_50 : Cond.fieldLink RX8 50 "HiddenRunsModel" "thrown" "I" ∈ TB := TB_mem 663 (by decide +kernel) rfl
theorem fl_X8_7 : Cond.fieldLink RX8 7 "HiddenRunsModel" "s" "[I" ∈ TB := TB_mem 664 (by decide +kernel) rfl
theorem fl_X8_13 : Cond.fieldLink RX8 13 "HiddenRunsModel" "aside" "[I" ∈ TB := TB_mem 665 (by decide +kernel) rfl
theorem fl_X8_16 : Cond.fieldLink RX8 16 "HiddenRunsModel" "saved" "[I" ∈ TB := TB_mem 666 (by decide +kernel) rfl
theorem fl_X8_62 : Cond.fieldLink RX8 62 "HiddenRunsModel" "savedMany" "I" ∈ TB := TB_mem 667 (by decide +kernel) rfl
theorem fl_X8_19 : Cond.fieldLink RX8 19 "HiddenRunsModel" "snapshot" "[I" ∈ TB := TB_mem 668 (by decide +kernel) rfl
theorem fl_X8_171 : Cond.fieldLink RX8 171 "HiddenRunsModel" "hasSnapshot" "Z" ∈ TB := TB_mem 669 (by decide +kernel) rfl
theorem fl_X8_22 : Cond.fieldLink RX8 22 "HiddenRunsModel" "text" "[I" ∈ TB := TB_mem 670 (by decide +kernel) rfl
theorem fl_X8_120 : Cond.fieldLink RX8 120 "HiddenRunsModel" "length" "I" ∈ TB := TB_mem 671 (by decide +kernel) rfl
theorem fl_X8_25 : Cond.fieldLink RX8 25 "HiddenRunsModel" "up" "[J" ∈ TB := TB_mem 672 (by decide +kernel) rfl
theorem fl_X8_29 : Cond.fieldLink RX8 29 "HiddenRunsModel" "behind" "[J" ∈ TB := TB_mem 673 (by decide +kernel) rfl
theorem fl_X8_32 : Cond.fieldLink RX8 32 "HiddenRunsModel" "greatest" "[J" ∈ TB := TB_mem 674 (by decide +kernel) rfl
theorem fl_X8_35 : Cond.fieldLink RX8 35 "HiddenRunsModel" "many" "[J" ∈ TB := TB_mem 675 (by decide +kernel) rfl
theorem fl_X8_38 : Cond.fieldLink RX8 38 "HiddenRunsModel" "counts" "[J" ∈ TB := TB_mem 676 (by decide +kernel) rfl
theorem fl_X8_41 : Cond.fieldLink RX8 41 "HiddenRunsModel" "rests" "[I" ∈ TB := TB_mem 677 (by decide +kernel) rfl
theorem fl_X8_44 : Cond.fieldLink RX8 44 "HiddenRunsModel" "odds" "[I" ∈ TB := TB_mem 678 (by decide +kernel) rfl
theorem fl_X8_117 : Cond.fieldLink RX8 117 "HiddenRunsModel" "at" "I" ∈ TB := TB_mem 679 (by decide +kernel) rfl
theorem fl_X8_130 : Cond.fieldLink RX8 130 "HiddenRunsModel" "isWell" "Z" ∈ TB := TB_mem 680 (by decide +kernel) rfl
theorem fl_X8_47 : Cond.fieldLink RX8 47 "HiddenRunsModel" "told" "[I" ∈ TB := TB_mem 681 (by decide +kernel) rfl
theorem fl_X8_127 : Cond.fieldLink RX8 127 "HiddenRunsModel" "toldMany" "I" ∈ TB := TB_mem 682 (by decide +kernel) rfl
theorem ml_L_17 : Cond.methodLink RL 17 yX8_setWeight ∈ TB := TB_mem 724 (by decide +kernel) rfl
theorem im_X8_setWeight : Cond.instanceMethod yX8_setWeight ∈ TB := TB_mem 725 (by decide +kernel) rfl
theorem se_X8_setWeight : Cond.selects RX8 yX8_setWeight yX8_setWeight ∈ TB := TB_mem 726 (by decide +kernel) rfl
theorem kc_X8_setWeight : Cond.code yX8_setWeight cX8_setWeight 7 (some .int) ∈ TB := TB_mem 727 (by decide +kernel) rfl
theorem ml_X8_101 : Cond.methodLink RX8 101 yX8_placeOf ∈ TB := TB_mem 728 (by decide +kernel) rfl
theorem im_X8_placeOf : Cond.instanceMethod yX8_placeOf ∈ TB := TB_mem 730 (by decide +kernel) rfl
theorem kc_X8_placeOf : Cond.code yX8_placeOf cX8_placeOf 5 (some .int) ∈ TB := TB_mem 731 (by decide +kernel) rfl
theorem ml_X8_58 : Cond.methodLink RX8 58 yX8_in ∈ TB := TB_mem 732 (by decide +kernel) rfl
theorem sm_X8_in : Cond.static yX8_in ∈ TB := TB_mem 733 (by decide +kernel) rfl
theorem kc_X8_in : Cond.code yX8_in cX8_in 3 (some .boolean) ∈ TB := TB_mem 734 (by decide +kernel) rfl
theorem ml_X8_97 : Cond.methodLink RX8 97 yX8_isState ∈ TB := TB_mem 735 (by decide +kernel) rfl
theorem im_X8_isState : Cond.instanceMethod yX8_isState ∈ TB := TB_mem 737 (by decide +kernel) rfl
theorem kc_X8_isState : Cond.code yX8_isState cX8_isState 2 (some .boolean) ∈ TB := TB_mem 738 (by decide +kernel) rfl
theorem ml_X8_105 : Cond.methodLink RX8 105 yX8_records ∈ TB := TB_mem 739 (by decide +kernel) rfl
theorem im_X8_records : Cond.instanceMethod yX8_records ∈ TB := TB_mem 741 (by decide +kernel) rfl
theorem kc_X8_records : Cond.code yX8_records cX8_records 2 none ∈ TB := TB_mem 742 (by decide +kernel) rfl
theorem ml_L_22 : Cond.methodLink RL 22 yX8_addState ∈ TB := TB_mem 743 (by decide +kernel) rfl
theorem im_X8_addState : Cond.instanceMethod yX8_addState ∈ TB := TB_mem 744 (by decide +kernel) rfl
theorem se_X8_addState : Cond.selects RX8 yX8_addState yX8_addState ∈ TB := TB_mem 745 (by decide +kernel) rfl
theorem kc_X8_addState : Cond.code yX8_addState cX8_addState 1 (some .int) ∈ TB := TB_mem 746 (by decide +kernel) rfl
theorem ml_L_27 : Cond.methodLink RL 27 yX8_split ∈ TB := TB_mem 747 (by decide +kernel) rfl
theorem im_X8_split : Cond.instanceMethod yX8_split ∈ TB := TB_mem 748 (by decide +kernel) rfl
theorem se_X8_split : Cond.selects RX8 yX8_split yX8_split ∈ TB := TB_mem 749 (by decide +kernel) rfl
theorem kc_X8_split : Cond.code yX8_split cX8_split 5 (some .int) ∈ TB := TB_mem 750 (by decide +kernel) rfl
theorem ml_X8_76 : Cond.methodLink RX8 76 yX8_go ∈ TB := TB_mem 751 (by decide +kernel) rfl
theorem im_X8_go : Cond.instanceMethod yX8_go ∈ TB := TB_mem 753 (by decide +kernel) rfl
theorem kc_X8_go : Cond.code yX8_go cX8_go 3 (some .int) ∈ TB := TB_mem 754 (by decide +kernel) rfl
theorem ml_X8_73 : Cond.methodLink RX8 73 yX8_show ∈ TB := TB_mem 755 (by decide +kernel) rfl
theorem im_X8_show : Cond.instanceMethod yX8_show ∈ TB := TB_mem 757 (by decide +kernel) rfl
theorem kc_X8_show : Cond.code yX8_show cX8_show 3 (some .int) ∈ TB := TB_mem 758 (by decide +kernel) rfl
theorem ml_L_32 : Cond.methodLink RL 32 yX8_join ∈ TB := TB_mem 759 (by decide +kernel) rfl
theorem im_X8_join : Cond.instanceMethod yX8_join ∈ TB := TB_mem 760 (by decide +kernel) rfl
theorem se_X8_join : Cond.selects RX8 yX8_join yX8_join ∈ TB := TB_mem 761 (by decide +kernel) rfl
theorem kc_X8_join : Cond.code yX8_join cX8_join 7 (some .int) ∈ TB := TB_mem 762 (by decide +kernel) rfl
theorem ml_X8_111 : Cond.methodLink RX8 111 yX8_capped ∈ TB := TB_mem 763 (by decide +kernel) rfl
theorem sm_X8_capped : Cond.static yX8_capped ∈ TB := TB_mem 764 (by decide +kernel) rfl
theorem kc_X8_capped : Cond.code yX8_capped cX8_capped 1 (some .int) ∈ TB := TB_mem 765 (by decide +kernel) rfl
theorem ml_X8_114 : Cond.methodLink RX8 114 yX8_drops ∈ TB := TB_mem 766 (by decide +kernel) rfl
theorem im_X8_drops : Cond.instanceMethod yX8_drops ∈ TB := TB_mem 768 (by decide +kernel) rfl
theorem kc_X8_drops : Cond.code yX8_drops cX8_drops 4 none ∈ TB := TB_mem 769 (by decide +kernel) rfl
theorem ml_X8_108 : Cond.methodLink RX8 108 yX8_clears ∈ TB := TB_mem 770 (by decide +kernel) rfl
theorem im_X8_clears : Cond.instanceMethod yX8_clears ∈ TB := TB_mem 772 (by decide +kernel) rfl
theorem kc_X8_clears : Cond.code yX8_clears cX8_clears 3 none ∈ TB := TB_mem 773 (by decide +kernel) rfl
theorem ml_L_36 : Cond.methodLink RL 36 yX8_removeState ∈ TB := TB_mem 774 (by decide +kernel) rfl
theorem im_X8_removeState : Cond.instanceMethod yX8_removeState ∈ TB := TB_mem 775 (by decide +kernel) rfl
theorem se_X8_removeState : Cond.selects RX8 yX8_removeState yX8_removeState ∈ TB := TB_mem 776 (by decide +kernel) rfl
theorem kc_X8_removeState : Cond.code yX8_removeState cX8_removeState 2 (some .int) ∈ TB := TB_mem 777 (by decide +kernel) rfl
theorem ml_L_40 : Cond.methodLink RL 40 yX8_setBound ∈ TB := TB_mem 778 (by decide +kernel) rfl
theorem im_X8_setBound : Cond.instanceMethod yX8_setBound ∈ TB := TB_mem 779 (by decide +kernel) rfl
theorem se_X8_setBound : Cond.selects RX8 yX8_setBound yX8_setBound ∈ TB := TB_mem 780 (by decide +kernel) rfl
theorem kc_X8_setBound : Cond.code yX8_setBound cX8_setBound 3 (some .int) ∈ TB := TB_mem 781 (by decide +kernel) rfl
theorem ml_L_44 : Cond.methodLink RL 44 yX8_addSamples ∈ TB := TB_mem 782 (by decide +kernel) rfl
theorem im_X8_addSamples : Cond.instanceMethod yX8_addSamples ∈ TB := TB_mem 783 (by decide +kernel) rfl
theorem se_X8_addSamples : Cond.selects RX8 yX8_addSamples yX8_addSamples ∈ TB := TB_mem 784 (by decide +kernel) rfl
theorem kc_X8_addSamples : Cond.code yX8_addSamples cX8_addSamples 4 (some .int) ∈ TB := TB_mem 785 (by decide +kernel) rfl
theorem ml_X8_137 : Cond.methodLink RX8 137 yX8_reads ∈ TB := TB_mem 786 (by decide +kernel) rfl
theorem im_X8_reads : Cond.instanceMethod yX8_reads ∈ TB := TB_mem 788 (by decide +kernel) rfl
theorem kc_X8_reads : Cond.code yX8_reads cX8_reads 1 (some .int) ∈ TB := TB_mem 789 (by decide +kernel) rfl
theorem ml_X8_134 : Cond.methodLink RX8 134 yX8_readsSample ∈ TB := TB_mem 790 (by decide +kernel) rfl
theorem im_X8_readsSample : Cond.instanceMethod yX8_readsSample ∈ TB := TB_mem 792 (by decide +kernel) rfl
theorem kc_X8_readsSample : Cond.code yX8_readsSample cX8_readsSample 2 none ∈ TB := TB_mem 793 (by decide +kernel) rfl
theorem ml_X8_123 : Cond.methodLink RX8 123 yX8_letter ∈ TB := TB_mem 794 (by decide +kernel) rfl
theorem im_X8_letter : Cond.instanceMethod yX8_letter ∈ TB := TB_mem 796 (by decide +kernel) rfl
theorem kc_X8_letter : Cond.code yX8_letter cX8_letter 1 (some .int) ∈ TB := TB_mem 797 (by decide +kernel) rfl
theorem ml_L_48 : Cond.methodLink RL 48 yX8_removeSample ∈ TB := TB_mem 798 (by decide +kernel) rfl
theorem im_X8_removeSample : Cond.instanceMethod yX8_removeSample ∈ TB := TB_mem 799 (by decide +kernel) rfl
theorem se_X8_removeSample : Cond.selects RX8 yX8_removeSample yX8_removeSample ∈ TB := TB_mem 800 (by decide +kernel) rfl
theorem kc_X8_removeSample : Cond.code yX8_removeSample cX8_removeSample 3 (some .int) ∈ TB := TB_mem 801 (by decide +kernel) rfl
theorem ml_X8_140 : Cond.methodLink RX8 140 yX8_isSample ∈ TB := TB_mem 802 (by decide +kernel) rfl
theorem im_X8_isSample : Cond.instanceMethod yX8_isSample ∈ TB := TB_mem 804 (by decide +kernel) rfl
theorem kc_X8_isSample : Cond.code yX8_isSample cX8_isSample 2 (some .boolean) ∈ TB := TB_mem 805 (by decide +kernel) rfl
theorem ml_L_52 : Cond.methodLink RL 52 yX8_learn ∈ TB := TB_mem 806 (by decide +kernel) rfl
theorem im_X8_learn : Cond.instanceMethod yX8_learn ∈ TB := TB_mem 807 (by decide +kernel) rfl
theorem se_X8_learn : Cond.selects RX8 yX8_learn yX8_learn ∈ TB := TB_mem 808 (by decide +kernel) rfl
theorem kc_X8_learn : Cond.code yX8_learn cX8_learn 3 (some .int) ∈ TB := TB_mem 809 (by decide +kernel) rfl
theorem ml_X8_164 : Cond.methodLink RX8 164 yX8_learnsOnce ∈ TB := TB_mem 810 (by decide +kernel) rfl
theorem im_X8_learnsOnce : Cond.instanceMethod yX8_learnsOnce ∈ TB := TB_mem 812 (by decide +kernel) rfl
theorem kc_X8_learnsOnce : Cond.code yX8_learnsOnce cX8_learnsOnce 4 (some .boolean) ∈ TB := TB_mem 813 (by decide +kernel) rfl
theorem ml_X8_151 : Cond.methodLink RX8 151 yX8_laysRuns ∈ TB := TB_mem 814 (by decide +kernel) rfl
theorem im_X8_laysRuns : Cond.instanceMethod yX8_laysRuns ∈ TB := TB_mem 816 (by decide +kernel) rfl
theorem kc_X8_laysRuns : Cond.code yX8_laysRuns cX8_laysRuns 8 none ∈ TB := TB_mem 817 (by decide +kernel) rfl
theorem ml_X8_65 : Cond.methodLink RX8 65 yX8_placesOf ∈ TB := TB_mem 818 (by decide +kernel) rfl
theorem im_X8_placesOf : Cond.instanceMethod yX8_placesOf ∈ TB := TB_mem 820 (by decide +kernel) rfl
theorem kc_X8_placesOf : Cond.code yX8_placesOf cX8_placesOf 2 (some .int) ∈ TB := TB_mem 821 (by decide +kernel) rfl
theorem ml_X8_69 : Cond.methodLink RX8 69 yX8_signAt ∈ TB := TB_mem 822 (by decide +kernel) rfl
theorem im_X8_signAt : Cond.instanceMethod yX8_signAt ∈ TB := TB_mem 824 (by decide +kernel) rfl
theorem kc_X8_signAt : Cond.code yX8_signAt cX8_signAt 3 (some .int) ∈ TB := TB_mem 825 (by decide +kernel) rfl
theorem ml_X8_79 : Cond.methodLink RX8 79 yX8_laysBehind ∈ TB := TB_mem 826 (by decide +kernel) rfl
theorem im_X8_laysBehind : Cond.instanceMethod yX8_laysBehind ∈ TB := TB_mem 828 (by decide +kernel) rfl
theorem kc_X8_laysBehind : Cond.code yX8_laysBehind cX8_laysBehind 15 none ∈ TB := TB_mem 829 (by decide +kernel) rfl
theorem ml_X8_83 : Cond.methodLink RX8 83 yX8_step ∈ TB := TB_mem 830 (by decide +kernel) rfl
theorem im_X8_step : Cond.instanceMethod yX8_step ∈ TB := TB_mem 832 (by decide +kernel) rfl
theorem kc_X8_step : Cond.code yX8_step cX8_step 5 (some .long) ∈ TB := TB_mem 833 (by decide +kernel) rfl
theorem ml_X8_154 : Cond.methodLink RX8 154 yX8_total ∈ TB := TB_mem 834 (by decide +kernel) rfl
theorem im_X8_total : Cond.instanceMethod yX8_total ∈ TB := TB_mem 836 (by decide +kernel) rfl
theorem kc_X8_total : Cond.code yX8_total cX8_total 4 (some .long) ∈ TB := TB_mem 837 (by decide +kernel) rfl
theorem ml_X8_87 : Cond.methodLink RX8 87 yX8_weightAt ∈ TB := TB_mem 838 (by decide +kernel) rfl
theorem im_X8_weightAt : Cond.instanceMethod yX8_weightAt ∈ TB := TB_mem 840 (by decide +kernel) rfl
theorem kc_X8_weightAt : Cond.code yX8_weightAt cX8_weightAt 3 (some .long) ∈ TB := TB_mem 841 (by decide +kernel) rfl
theorem ml_X8_157 : Cond.methodLink RX8 157 yX8_counts ∈ TB := TB_mem 842 (by decide +kernel) rfl
theorem im_X8_counts : Cond.instanceMethod yX8_counts ∈ TB := TB_mem 844 (by decide +kernel) rfl
theorem kc_X8_counts : Cond.code yX8_counts cX8_counts 9 none ∈ TB := TB_mem 845 (by decide +kernel) rfl
theorem ml_X8_143 : Cond.methodLink RX8 143 yX8_shareOf ∈ TB := TB_mem 846 (by decide +kernel) rfl
theorem sm_X8_shareOf : Cond.static yX8_shareOf ∈ TB := TB_mem 847 (by decide +kernel) rfl
theorem kc_X8_shareOf : Cond.code yX8_shareOf cX8_shareOf 9 (some .int) ∈ TB := TB_mem 848 (by decide +kernel) rfl
theorem ko_X8_91 : Cond.constantLong RX8 91 (10) ∈ TB := TB_mem 849 (by decide +kernel) rfl
theorem ml_X8_160 : Cond.methodLink RX8 160 yX8_learnsFamily ∈ TB := TB_mem 850 (by decide +kernel) rfl
theorem im_X8_learnsFamily : Cond.instanceMethod yX8_learnsFamily ∈ TB := TB_mem 852 (by decide +kernel) rfl
theorem kc_X8_learnsFamily : Cond.code yX8_learnsFamily cX8_learnsFamily 8 (some .boolean) ∈ TB := TB_mem 853 (by decide +kernel) rfl
theorem ko_X8_147 : Cond.constantLong RX8 147 (6) ∈ TB := TB_mem 854 (by decide +kernel) rfl
theorem ko_X8_149 : Cond.constantLong RX8 149 (2) ∈ TB := TB_mem 855 (by decide +kernel) rfl
theorem ml_X8_168 : Cond.methodLink RX8 168 yX8_swapsAside ∈ TB := TB_mem 856 (by decide +kernel) rfl
theorem im_X8_swapsAside : Cond.instanceMethod yX8_swapsAside ∈ TB := TB_mem 858 (by decide +kernel) rfl
theorem kc_X8_swapsAside : Cond.code yX8_swapsAside cX8_swapsAside 3 none ∈ TB := TB_mem 859 (by decide +kernel) rfl
theorem ml_L_57 : Cond.methodLink RL 57 yX8_type ∈ TB := TB_mem 860 (by decide +kernel) rfl
theorem im_X8_type : Cond.instanceMethod yX8_type ∈ TB := TB_mem 861 (by decide +kernel) rfl
theorem se_X8_type : Cond.selects RX8 yX8_type yX8_type ∈ TB := TB_mem 862 (by decide +kernel) rfl
theorem kc_X8_type : Cond.code yX8_type cX8_type 2 (some .int) ∈ TB := TB_mem 863 (by decide +kernel) rfl
theorem ml_L_61 : Cond.methodLink RL 61 yX8_clearText ∈ TB := TB_mem 864 (by decide +kernel) rfl
theorem im_X8_clearText : Cond.instanceMethod yX8_clearText ∈ TB := TB_mem 865 (by decide +kernel) rfl
theorem se_X8_clearText : Cond.selects RX8 yX8_clearText yX8_clearText ∈ TB := TB_mem 866 (by decide +kernel) rfl
theorem kc_X8_clearText : Cond.code yX8_clearText cX8_clearText 2 (some .int) ∈ TB := TB_mem 867 (by decide +kernel) rfl
theorem ml_L_65 : Cond.methodLink RL 65 yX8_undo ∈ TB := TB_mem 868 (by decide +kernel) rfl
theorem im_X8_undo : Cond.instanceMethod yX8_undo ∈ TB := TB_mem 869 (by decide +kernel) rfl
theorem se_X8_undo : Cond.selects RX8 yX8_undo yX8_undo ∈ TB := TB_mem 870 (by decide +kernel) rfl
theorem kc_X8_undo : Cond.code yX8_undo cX8_undo 2 (some .int) ∈ TB := TB_mem 871 (by decide +kernel) rfl
theorem ml_L_69 : Cond.methodLink RL 69 yX8_keep ∈ TB := TB_mem 872 (by decide +kernel) rfl
theorem im_X8_keep : Cond.instanceMethod yX8_keep ∈ TB := TB_mem 873 (by decide +kernel) rfl
theorem se_X8_keep : Cond.selects RX8 yX8_keep yX8_keep ∈ TB := TB_mem 874 (by decide +kernel) rfl
theorem kc_X8_keep : Cond.code yX8_keep cX8_keep 2 (some .int) ∈ TB := TB_mem 875 (by decide +kernel) rfl
theorem ml_L_73 : Cond.methodLink RL 73 yX8_restore ∈ TB := TB_mem 876 (by decide +kernel) rfl
theorem im_X8_restore : Cond.instanceMethod yX8_restore ∈ TB := TB_mem 877 (by decide +kernel) rfl
theorem se_X8_restore : Cond.selects RX8 yX8_restore yX8_restore ∈ TB := TB_mem 878 (by decide +kernel) rfl
theorem kc_X8_restore : Cond.code yX8_restore cX8_restore 2 (some .int) ∈ TB := TB_mem 879 (by decide +kernel) rfl
theorem ml_L_78 : Cond.methodLink RL 78 yX8_weight ∈ TB := TB_mem 880 (by decide +kernel) rfl
theorem im_X8_weight : Cond.instanceMethod yX8_weight ∈ TB := TB_mem 881 (by decide +kernel) rfl
theorem se_X8_weight : Cond.selects RX8 yX8_weight yX8_weight ∈ TB := TB_mem 882 (by decide +kernel) rfl
theorem kc_X8_weight : Cond.code yX8_weight cX8_weight 6 (some .int) ∈ TB := TB_mem 883 (by decide +kernel) rfl
theorem ml_X8_174 : Cond.methodLink RX8 174 yX8_oddsOf ∈ TB := TB_mem 884 (by decide +kernel) rfl
theorem im_X8_oddsOf : Cond.instanceMethod yX8_oddsOf ∈ TB := TB_mem 886 (by decide +kernel) rfl
theorem kc_X8_oddsOf : Cond.code yX8_oddsOf cX8_oddsOf 4 (some .int) ∈ TB := TB_mem 887 (by decide +kernel) rfl
theorem ml_X8_177 : Cond.methodLink RX8 177 yX8_laysOdds ∈ TB := TB_mem 888 (by decide +kernel) rfl
theorem im_X8_laysOdds : Cond.instanceMethod yX8_laysOdds ∈ TB := TB_mem 890 (by decide +kernel) rfl
theorem kc_X8_laysOdds : Cond.code yX8_laysOdds cX8_laysOdds 7 none ∈ TB := TB_mem 891 (by decide +kernel) rfl
theorem ml_L_82 : Cond.methodLink RL 82 yX8_sign ∈ TB := TB_mem 892 (by decide +kernel) rfl
theorem im_X8_sign : Cond.instanceMethod yX8_sign ∈ TB := TB_mem 893 (by decide +kernel) rfl
theorem se_X8_sign : Cond.selects RX8 yX8_sign yX8_sign ∈ TB := TB_mem 894 (by decide +kernel) rfl
theorem kc_X8_sign : Cond.code yX8_sign cX8_sign 3 (some .int) ∈ TB := TB_mem 895 (by decide +kernel) rfl
theorem ml_X8_181 : Cond.methodLink RX8 181 yX8_isPlace ∈ TB := TB_mem 896 (by decide +kernel) rfl
theorem im_X8_isPlace : Cond.instanceMethod yX8_isPlace ∈ TB := TB_mem 898 (by decide +kernel) rfl
theorem kc_X8_isPlace : Cond.code yX8_isPlace cX8_isPlace 3 (some .boolean) ∈ TB := TB_mem 899 (by decide +kernel) rfl
theorem ml_L_87 : Cond.methodLink RL 87 yX8_ofSample ∈ TB := TB_mem 900 (by decide +kernel) rfl
theorem im_X8_ofSample : Cond.instanceMethod yX8_ofSample ∈ TB := TB_mem 901 (by decide +kernel) rfl
theorem se_X8_ofSample : Cond.selects RX8 yX8_ofSample yX8_ofSample ∈ TB := TB_mem 902 (by decide +kernel) rfl
theorem kc_X8_ofSample : Cond.code yX8_ofSample cX8_ofSample 3 (some .long) ∈ TB := TB_mem 903 (by decide +kernel) rfl
theorem ko_X8_184 : Cond.constantLong RX8 184 (-1) ∈ TB := TB_mem 904 (by decide +kernel) rfl
theorem ko_X8_186 : Cond.constantLong RX8 186 (-2) ∈ TB := TB_mem 905 (by decide +kernel) rfl
theorem ml_X8_188 : Cond.methodLink RX8 188 yX8_runsThatCount ∈ TB := TB_mem 906 (by decide +kernel) rfl
theorem im_X8_runsThatCount : Cond.instanceMethod yX8_runsThatCount ∈ TB := TB_mem 908 (by decide +kernel) rfl
theorem kc_X8_runsThatCount : Cond.code yX8_runsThatCount cX8_runsThatCount 4 (some .long) ∈ TB := TB_mem 909 (by decide +kernel) rfl
theorem ml_X8_93 : Cond.methodLink RX8 93 yX8_bestWeight ∈ TB := TB_mem 910 (by decide +kernel) rfl
theorem im_X8_bestWeight : Cond.instanceMethod yX8_bestWeight ∈ TB := TB_mem 912 (by decide +kernel) rfl
theorem kc_X8_bestWeight : Cond.code yX8_bestWeight cX8_bestWeight 6 (some .long) ∈ TB := TB_mem 913 (by decide +kernel) rfl
theorem ml_L_91 : Cond.methodLink RL 91 yX8_best ∈ TB := TB_mem 914 (by decide +kernel) rfl
theorem im_X8_best : Cond.instanceMethod yX8_best ∈ TB := TB_mem 915 (by decide +kernel) rfl
theorem se_X8_best : Cond.selects RX8 yX8_best yX8_best ∈ TB := TB_mem 916 (by decide +kernel) rfl
theorem kc_X8_best : Cond.code yX8_best cX8_best 3 (some .int) ∈ TB := TB_mem 917 (by decide +kernel) rfl
theorem ml_X8_191 : Cond.methodLink RX8 191 yX8_bestAt ∈ TB := TB_mem 918 (by decide +kernel) rfl
theorem im_X8_bestAt : Cond.instanceMethod yX8_bestAt ∈ TB := TB_mem 920 (by decide +kernel) rfl
theorem kc_X8_bestAt : Cond.code yX8_bestAt cX8_bestAt 8 (some .int) ∈ TB := TB_mem 921 (by decide +kernel) rfl
theorem ml_L_96 : Cond.methodLink RL 96 yX8_share ∈ TB := TB_mem 922 (by decide +kernel) rfl
theorem im_X8_share : Cond.instanceMethod yX8_share ∈ TB := TB_mem 923 (by decide +kernel) rfl
theorem se_X8_share : Cond.selects RX8 yX8_share yX8_share ∈ TB := TB_mem 924 (by decide +kernel) rfl
theorem kc_X8_share : Cond.code yX8_share cX8_share 4 (some .int) ∈ TB := TB_mem 925 (by decide +kernel) rfl
theorem ml_L_100 : Cond.methodLink RL 100 yX8_likeliest ∈ TB := TB_mem 926 (by decide +kernel) rfl
theorem im_X8_likeliest : Cond.instanceMethod yX8_likeliest ∈ TB := TB_mem 927 (by decide +kernel) rfl
theorem se_X8_likeliest : Cond.selects RX8 yX8_likeliest yX8_likeliest ∈ TB := TB_mem 928 (by decide +kernel) rfl
theorem kc_X8_likeliest : Cond.code yX8_likeliest cX8_likeliest 3 (some .int) ∈ TB := TB_mem 929 (by decide +kernel) rfl
theorem ml_X8_194 : Cond.methodLink RX8 194 yX8_likeliestAt ∈ TB := TB_mem 930 (by decide +kernel) rfl
theorem im_X8_likeliestAt : Cond.instanceMethod yX8_likeliestAt ∈ TB := TB_mem 932 (by decide +kernel) rfl
theorem kc_X8_likeliestAt : Cond.code yX8_likeliestAt cX8_likeliestAt 4 (some .int) ∈ TB := TB_mem 933 (by decide +kernel) rfl
theorem ml_L_104 : Cond.methodLink RL 104 yX8_doubtful ∈ TB := TB_mem 934 (by decide +kernel) rfl
theorem im_X8_doubtful : Cond.instanceMethod yX8_doubtful ∈ TB := TB_mem 935 (by decide +kernel) rfl
theorem se_X8_doubtful : Cond.selects RX8 yX8_doubtful yX8_doubtful ∈ TB := TB_mem 936 (by decide +kernel) rfl
theorem kc_X8_doubtful : Cond.code yX8_doubtful cX8_doubtful 2 (some .int) ∈ TB := TB_mem 937 (by decide +kernel) rfl
theorem ml_X8_197 : Cond.methodLink RX8 197 yX8_doubts ∈ TB := TB_mem 938 (by decide +kernel) rfl
theorem im_X8_doubts : Cond.instanceMethod yX8_doubts ∈ TB := TB_mem 940 (by decide +kernel) rfl
theorem kc_X8_doubts : Cond.code yX8_doubts cX8_doubts 6 (some .int) ∈ TB := TB_mem 941 (by decide +kernel) rfl
theorem ml_L_108 : Cond.methodLink RL 108 yX8_run ∈ TB := TB_mem 942 (by decide +kernel) rfl
theorem im_X8_run : Cond.instanceMethod yX8_run ∈ TB := TB_mem 943 (by decide +kernel) rfl
theorem se_X8_run : Cond.selects RX8 yX8_run yX8_run ∈ TB := TB_mem 944 (by decide +kernel) rfl
theorem kc_X8_run : Cond.code yX8_run cX8_run 4 (some .int) ∈ TB := TB_mem 945 (by decide +kernel) rfl
theorem ml_X8_200 : Cond.methodLink RX8 200 yX8_runAt ∈ TB := TB_mem 946 (by decide +kernel) rfl
theorem im_X8_runAt : Cond.instanceMethod yX8_runAt ∈ TB := TB_mem 948 (by decide +kernel) rfl
theorem kc_X8_runAt : Cond.code yX8_runAt cX8_runAt 10 (some .int) ∈ TB := TB_mem 949 (by decide +kernel) rfl
theorem ml_L_112 : Cond.methodLink RL 112 yX8_next ∈ TB := TB_mem 950 (by decide +kernel) rfl
theorem im_X8_next : Cond.instanceMethod yX8_next ∈ TB := TB_mem 951 (by decide +kernel) rfl
theorem se_X8_next : Cond.selects RX8 yX8_next yX8_next ∈ TB := TB_mem 952 (by decide +kernel) rfl
theorem kc_X8_next : Cond.code yX8_next cX8_next 5 (some .int) ∈ TB := TB_mem 953 (by decide +kernel) rfl
theorem ml_X8_203 : Cond.methodLink RX8 203 yX8_weightOfNext ∈ TB := TB_mem 954 (by decide +kernel) rfl
theorem im_X8_weightOfNext : Cond.instanceMethod yX8_weightOfNext ∈ TB := TB_mem 956 (by decide +kernel) rfl
theorem kc_X8_weightOfNext : Cond.code yX8_weightOfNext cX8_weightOfNext 8 (some .long) ∈ TB := TB_mem 957 (by decide +kernel) rfl
theorem ml_L_116 : Cond.methodLink RL 116 yX8_count ∈ TB := TB_mem 958 (by decide +kernel) rfl
theorem im_X8_count : Cond.instanceMethod yX8_count ∈ TB := TB_mem 959 (by decide +kernel) rfl
theorem se_X8_count : Cond.selects RX8 yX8_count yX8_count ∈ TB := TB_mem 960 (by decide +kernel) rfl
theorem kc_X8_count : Cond.code yX8_count cX8_count 2 (some .int) ∈ TB := TB_mem 961 (by decide +kernel) rfl
theorem ml_X8_206 : Cond.methodLink RX8 206 yX8_signs ∈ TB := TB_mem 962 (by decide +kernel) rfl
theorem im_X8_signs : Cond.instanceMethod yX8_signs ∈ TB := TB_mem 964 (by decide +kernel) rfl
theorem kc_X8_signs : Cond.code yX8_signs cX8_signs 3 (some .int) ∈ TB := TB_mem 965 (by decide +kernel) rfl
theorem ml_X8_209 : Cond.methodLink RX8 209 yX8_overSamples ∈ TB := TB_mem 966 (by decide +kernel) rfl
theorem im_X8_overSamples : Cond.instanceMethod yX8_overSamples ∈ TB := TB_mem 968 (by decide +kernel) rfl
theorem kc_X8_overSamples : Cond.code yX8_overSamples cX8_overSamples 7 (some .int) ∈ TB := TB_mem 969 (by decide +kernel) rfl
theorem se_X1_dropOldest : Cond.selects RX1 yX1_dropOldest yX1_dropOldest ∈ TB := TB_mem 0 (by decide +kernel) rfl
theorem se_X3_addInto : Cond.selects RX3 yX3_addInto yX3_addInto ∈ TB := TB_mem 1 (by decide +kernel) rfl
theorem se_X6_aheadOf : Cond.selects RX6 yX6_aheadOf yX6_aheadOf ∈ TB := TB_mem 2 (by decide +kernel) rfl
theorem se_X6_behindOf : Cond.selects RX6 yX6_behindOf yX6_behindOf ∈ TB := TB_mem 3 (by decide +kernel) rfl
theorem se_X6_stepBehind : Cond.selects RX6 yX6_stepBehind yX6_stepBehind ∈ TB := TB_mem 4 (by decide +kernel) rfl
theorem se_X2_countSample : Cond.selects RX2 yX2_countSample yX2_countSample ∈ TB := TB_mem 5 (by decide +kernel) rfl
theorem se_X2_addCount : Cond.selects RX2 yX2_addCount yX2_addCount ∈ TB := TB_mem 6 (by decide +kernel) rfl
theorem se_X2_makeFamily : Cond.selects RX2 yX2_makeFamily yX2_makeFamily ∈ TB := TB_mem 7 (by decide +kernel) rfl
theorem se_X2_differs : Cond.selects RX2 yX2_differs yX2_differs ∈ TB := TB_mem 8 (by decide +kernel) rfl
theorem se_X4_partsBehind : Cond.selects RX4 yX4_partsBehind yX4_partsBehind ∈ TB := TB_mem 9 (by decide +kernel) rfl
theorem se_X4_entering : Cond.selects RX4 yX4_entering yX4_entering ∈ TB := TB_mem 10 (by decide +kernel) rfl
theorem se_X0_nextOf : Cond.selects RX0 yX0_nextOf yX0_nextOf ∈ TB := TB_mem 11 (by decide +kernel) rfl
theorem se_X0_going : Cond.selects RX0 yX0_going yX0_going ∈ TB := TB_mem 12 (by decide +kernel) rfl
theorem se_X0_firstOf : Cond.selects RX0 yX0_firstOf yX0_firstOf ∈ TB := TB_mem 13 (by decide +kernel) rfl
theorem se_X0_beginning : Cond.selects RX0 yX0_beginning yX0_beginning ∈ TB := TB_mem 14 (by decide +kernel) rfl
theorem se_X7_allDoubtful : Cond.selects RX7 yX7_allDoubtful yX7_allDoubtful ∈ TB := TB_mem 15 (by decide +kernel) rfl
theorem se_X7_samplesWithoutTotal : Cond.selects RX7 yX7_samplesWithoutTotal yX7_samplesWithoutTotal ∈ TB := TB_mem 16 (by decide +kernel) rfl
theorem se_X7_placesOffBest : Cond.selects RX7 yX7_placesOffBest yX7_placesOffBest ∈ TB := TB_mem 17 (by decide +kernel) rfl
theorem se_X7_placesOffPath : Cond.selects RX7 yX7_placesOffPath yX7_placesOffPath ∈ TB := TB_mem 18 (by decide +kernel) rfl
theorem se_X8_fills : Cond.selects RX8 yX8_fills yX8_fills ∈ TB := TB_mem 19 (by decide +kernel) rfl
theorem se_X8_placeOf : Cond.selects RX8 yX8_placeOf yX8_placeOf ∈ TB := TB_mem 20 (by decide +kernel) rfl
theorem se_X8_isState : Cond.selects RX8 yX8_isState yX8_isState ∈ TB := TB_mem 21 (by decide +kernel) rfl
theorem se_X8_records : Cond.selects RX8 yX8_records yX8_records ∈ TB := TB_mem 22 (by decide +kernel) rfl
theorem se_X8_go : Cond.selects RX8 yX8_go yX8_go ∈ TB := TB_mem 23 (by decide +kernel) rfl
theorem se_X8_show : Cond.selects RX8 yX8_show yX8_show ∈ TB := TB_mem 24 (by decide +kernel) rfl
theorem se_X8_drops : Cond.selects RX8 yX8_drops yX8_drops ∈ TB := TB_mem 25 (by decide +kernel) rfl
theorem se_X8_clears : Cond.selects RX8 yX8_clears yX8_clears ∈ TB := TB_mem 26 (by decide +kernel) rfl
theorem se_X8_reads : Cond.selects RX8 yX8_reads yX8_reads ∈ TB := TB_mem 27 (by decide +kernel) rfl
theorem se_X8_readsSample : Cond.selects RX8 yX8_readsSample yX8_readsSample ∈ TB := TB_mem 28 (by decide +kernel) rfl
theorem se_X8_letter : Cond.selects RX8 yX8_letter yX8_letter ∈ TB := TB_mem 29 (by decide +kernel) rfl
theorem se_X8_isSample : Cond.selects RX8 yX8_isSample yX8_isSample ∈ TB := TB_mem 30 (by decide +kernel) rfl
theorem se_X8_learnsOnce : Cond.selects RX8 yX8_learnsOnce yX8_learnsOnce ∈ TB := TB_mem 31 (by decide +kernel) rfl
theorem se_X8_laysRuns : Cond.selects RX8 yX8_laysRuns yX8_laysRuns ∈ TB := TB_mem 32 (by decide +kernel) rfl
theorem se_X8_placesOf : Cond.selects RX8 yX8_placesOf yX8_placesOf ∈ TB := TB_mem 33 (by decide +kernel) rfl
theorem se_X8_signAt : Cond.selects RX8 yX8_signAt yX8_signAt ∈ TB := TB_mem 34 (by decide +kernel) rfl
theorem se_X8_laysBehind : Cond.selects RX8 yX8_laysBehind yX8_laysBehind ∈ TB := TB_mem 35 (by decide +kernel) rfl
theorem se_X8_step : Cond.selects RX8 yX8_step yX8_step ∈ TB := TB_mem 36 (by decide +kernel) rfl
theorem se_X8_total : Cond.selects RX8 yX8_total yX8_total ∈ TB := TB_mem 37 (by decide +kernel) rfl
theorem se_X8_weightAt : Cond.selects RX8 yX8_weightAt yX8_weightAt ∈ TB := TB_mem 38 (by decide +kernel) rfl
theorem se_X8_counts : Cond.selects RX8 yX8_counts yX8_counts ∈ TB := TB_mem 39 (by decide +kernel) rfl
theorem se_X8_learnsFamily : Cond.selects RX8 yX8_learnsFamily yX8_learnsFamily ∈ TB := TB_mem 40 (by decide +kernel) rfl
theorem se_X8_swapsAside : Cond.selects RX8 yX8_swapsAside yX8_swapsAside ∈ TB := TB_mem 41 (by decide +kernel) rfl
theorem se_X8_oddsOf : Cond.selects RX8 yX8_oddsOf yX8_oddsOf ∈ TB := TB_mem 42 (by decide +kernel) rfl
theorem se_X8_laysOdds : Cond.selects RX8 yX8_laysOdds yX8_laysOdds ∈ TB := TB_mem 43 (by decide +kernel) rfl
theorem se_X8_isPlace : Cond.selects RX8 yX8_isPlace yX8_isPlace ∈ TB := TB_mem 44 (by decide +kernel) rfl
theorem se_X8_runsThatCount : Cond.selects RX8 yX8_runsThatCount yX8_runsThatCount ∈ TB := TB_mem 45 (by decide +kernel) rfl
theorem se_X8_bestWeight : Cond.selects RX8 yX8_bestWeight yX8_bestWeight ∈ TB := TB_mem 46 (by decide +kernel) rfl
theorem se_X8_bestAt : Cond.selects RX8 yX8_bestAt yX8_bestAt ∈ TB := TB_mem 47 (by decide +kernel) rfl
theorem se_X8_likeliestAt : Cond.selects RX8 yX8_likeliestAt yX8_likeliestAt ∈ TB := TB_mem 48 (by decide +kernel) rfl
theorem se_X8_doubts : Cond.selects RX8 yX8_doubts yX8_doubts ∈ TB := TB_mem 49 (by decide +kernel) rfl
theorem se_X8_runAt : Cond.selects RX8 yX8_runAt yX8_runAt ∈ TB := TB_mem 50 (by decide +kernel) rfl
theorem se_X8_weightOfNext : Cond.selects RX8 yX8_weightOfNext yX8_weightOfNext ∈ TB := TB_mem 51 (by decide +kernel) rfl
theorem se_X8_signs : Cond.selects RX8 yX8_signs yX8_signs ∈ TB := TB_mem 52 (by decide +kernel) rfl
theorem se_X8_overSamples : Cond.selects RX8 yX8_overSamples yX8_overSamples ∈ TB := TB_mem 53 (by decide +kernel) rfl
theorem wi_X0 : ∀ w ∈ u_ws RX0 TX0 4, w ∈ TB := fun w h => List.mem_filter.mpr ⟨(show ∀ w ∈ u_ws RX0 TX0 4, w ∈ lw_tbl by decide +kernel) w h, List.all_eq_true.mp (show (u_ws RX0 TX0 4).all goodWord = true by decide +kernel) w h⟩
theorem wi_X1 : ∀ w ∈ u_ws RX1 TX1 2, w ∈ TB := fun w h => List.mem_filter.mpr ⟨(show ∀ w ∈ u_ws RX1 TX1 2, w ∈ lw_tbl by decide +kernel) w h, List.all_eq_true.mp (show (u_ws RX1 TX1 2).all goodWord = true by decide +kernel) w h⟩
theorem wi_X2 : ∀ w ∈ u_ws RX2 TX2 4, w ∈ TB := fun w h => List.mem_filter.mpr ⟨(show ∀ w ∈ u_ws RX2 TX2 4, w ∈ lw_tbl by decide +kernel) w h, List.all_eq_true.mp (show (u_ws RX2 TX2 4).all goodWord = true by decide +kernel) w h⟩
theorem wi_X3 : ∀ w ∈ u_ws RX3 TX3 6, w ∈ TB := fun w h => List.mem_filter.mpr ⟨(show ∀ w ∈ u_ws RX3 TX3 6, w ∈ lw_tbl by decide +kernel) w h, List.all_eq_true.mp (show (u_ws RX3 TX3 6).all goodWord = true by decide +kernel) w h⟩
theorem wi_X4 : ∀ w ∈ u_ws RX4 TX4 3, w ∈ TB := fun w h => List.mem_filter.mpr ⟨(show ∀ w ∈ u_ws RX4 TX4 3, w ∈ lw_tbl by decide +kernel) w h, List.all_eq_true.mp (show (u_ws RX4 TX4 3).all goodWord = true by decide +kernel) w h⟩
theorem wi_X5 : ∀ w ∈ u_ws RX5 TX5 2, w ∈ TB := fun w h => List.mem_filter.mpr ⟨(show ∀ w ∈ u_ws RX5 TX5 2, w ∈ lw_tbl by decide +kernel) w h, List.all_eq_true.mp (show (u_ws RX5 TX5 2).all goodWord = true by decide +kernel) w h⟩
theorem wi_X6 : ∀ w ∈ u_ws RX6 TX6 6, w ∈ TB := fun w h => List.mem_filter.mpr ⟨(show ∀ w ∈ u_ws RX6 TX6 6, w ∈ lw_tbl by decide +kernel) w h, List.all_eq_true.mp (show (u_ws RX6 TX6 6).all goodWord = true by decide +kernel) w h⟩
theorem wi_X7 : ∀ w ∈ u_ws RX7 TX7 9, w ∈ TB := fun w h => List.mem_filter.mpr ⟨(show ∀ w ∈ u_ws RX7 TX7 9, w ∈ lw_tbl by decide +kernel) w h, List.all_eq_true.mp (show (u_ws RX7 TX7 9).all goodWord = true by decide +kernel) w h⟩
theorem wi_X8 : ∀ w ∈ u_ws RX8 TX8 20, w ∈ TB := fun w h => List.mem_filter.mpr ⟨(show ∀ w ∈ u_ws RX8 TX8 20, w ∈ lw_tbl by decide +kernel) w h, List.all_eq_true.mp (show (u_ws RX8 TX8 20).all goodWord = true by decide +kernel) w h⟩
end
section
theorem dX0_init_0 : decode cX0_init 0 = .ok (.aload_n 0, 1) := by decide +kernel
theorem dX0_init_1 : decode cX0_init 1 = .ok (.invokespecial 3, 3) := by decide +kernel
theorem dX0_init_4 : decode cX0_init 4 = .ok (.aload_n 0, 1) := by decide +kernel
theorem dX0_init_5 : decode cX0_init 5 = .ok (.aload_n 1, 1) := by decide +kernel
theorem dX0_init_6 : decode cX0_init 6 = .ok (.putfield 9, 3) := by decide +kernel
theorem dX0_init_9 : decode cX0_init 9 = .ok (.aload_n 0, 1) := by decide +kernel
theorem dX0_init_10 : decode cX0_init 10 = .ok (.bipush 28, 2) := by decide +kernel
theorem dX0_init_12 : decode cX0_init 12 = .ok (.newarray .long, 2) := by decide +kernel
theorem dX0_init_14 : decode cX0_init 14 = .ok (.putfield 15, 3) := by decide +kernel
theorem dX0_init_17 : decode cX0_init 17 = .ok (.aload_n 0, 1) := by decide +kernel
theorem dX0_init_18 : decode cX0_init 18 = .ok (.bipush 7, 2) := by decide +kernel
theorem dX0_init_20 : decode cX0_init 20 = .ok (.newarray .int, 2) := by decide +kernel
theorem dX0_init_22 : decode cX0_init 22 = .ok (.putfield 19, 3) := by decide +kernel
theorem dX0_init_25 : decode cX0_init 25 = .ok (.return_, 1) := by decide +kernel
theorem dX0_read_0 : decode cX0_read 0 = .ok (.aload_n 0, 1) := by decide +kernel
theorem dX0_read_1 : decode cX0_read 1 = .ok (.getfield 9, 3) := by decide +kernel
theorem dX0_read_4 : decode cX0_read 4 = .ok (.getfield 23, 3) := by decide +kernel
theorem dX0_read_7 : decode cX0_read 7 = .ok (.iload_n 1, 1) := by decide +kernel
theorem dX0_read_8 : decode cX0_read 8 = .ok (.iaload, 1) := by decide +kernel
theorem dX0_read_9 : decode cX0_read 9 = .ok (.istore_n 2, 1) := by decide +kernel
theorem dX0_read_10 : decode cX0_read 10 = .ok (.iload_n 2, 1) := by decide +kernel
theorem dX0_read_11 : decode cX0_read 11 = .ok (.iconst 1, 1) := by decide +kernel
theorem dX0_read_12 : decode cX0_read 12 = .ok (.isub, 1) := by decide +kernel
theorem dX0_read_13 : decode cX0_read 13 = .ok (.istore_n 3, 1) := by decide +kernel
theorem dX0_read_14 : decode cX0_read 14 = .ok (.iload_n 3, 1) := by decide +kernel
theorem dX0_read_15 : decode cX0_read 15 = .ok (.ifCond .lt 83, 3) := by decide +kernel
theorem dX0_read_18 : decode cX0_read 18 = .ok (.iconst 0, 1) := by decide +kernel
theorem dX0_read_19 : decode cX0_read 19 = .ok (.istore 4, 2) := by decide +kernel
theorem dX0_read_21 : decode cX0_read 21 = .ok (.iload 4, 2) := by decide +kernel
theorem dX0_read_23 : decode cX0_read 23 = .ok (.aload_n 0, 1) := by decide +kernel
theorem dX0_read_24 : decode cX0_read 24 = .ok (.getfield 9, 3) := by decide +kernel
theorem dX0_read_27 : decode cX0_read 27 = .ok (.getfield 28, 3) := by decide +kernel
theorem dX0_read_30 : decode cX0_read 30 = .ok (.if_icmp .ge 62, 3) := by decide +kernel
theorem dX0_read_33 : decode cX0_read 33 = .ok (.iload_n 3, 1) := by decide +kernel
theorem dX0_read_34 : decode cX0_read 34 = .ok (.iload_n 2, 1) := by decide +kernel
theorem dX0_read_35 : decode cX0_read 35 = .ok (.iconst 1, 1) := by decide +kernel
theorem dX0_read_36 : decode cX0_read 36 = .ok (.isub, 1) := by decide +kernel
theorem dX0_read_37 : decode cX0_read 37 = .ok (.if_icmp .ne 7, 3) := by decide +kernel
theorem dX0_read_40 : decode cX0_read 40 = .ok (.lconst 1, 1) := by decide +kernel
theorem dX0_read_41 : decode cX0_read 41 = .ok (.goto 17, 3) := by decide +kernel
theorem dX0_read_44 : decode cX0_read 44 = .ok (.aload_n 0, 1) := by decide +kernel
theorem dX0_read_45 : decode cX0_read 45 = .ok (.iload_n 3, 1) := by decide +kernel
theorem dX0_read_46 : decode cX0_read 46 = .ok (.iload 4, 2) := by decide +kernel
theorem dX0_read_48 : decode cX0_read 48 = .ok (.aload_n 0, 1) := by decide +kernel
theorem dX0_read_49 : decode cX0_read 49 = .ok (.iload_n 3, 1) := by decide +kernel
theorem dX0_read_50 : decode cX0_read 50 = .ok (.iload 4, 2) := by decide +kernel
theorem dX0_read_52 : decode cX0_read 52 = .ok (.invokevirtual 32, 3) := by decide +kernel
theorem dX0_read_55 : decode cX0_read 55 = .ok (.invokevirtual 36, 3) := by decide +kernel
theorem dX0_read_58 : decode cX0_read 58 = .ok (.lstore 5, 2) := by decide +kernel
theorem dX0_read_60 : decode cX0_read 60 = .ok (.aload_n 0, 1) := by decide +kernel
theorem dX0_read_61 : decode cX0_read 61 = .ok (.getfield 15, 3) := by decide +kernel
theorem dX0_read_64 : decode cX0_read 64 = .ok (.iload_n 3, 1) := by decide +kernel
theorem dX0_read_65 : decode cX0_read 65 = .ok (.iconst 4, 1) := by decide +kernel
theorem dX0_read_66 : decode cX0_read 66 = .ok (.imul, 1) := by decide +kernel
theorem dX0_read_67 : decode cX0_read 67 = .ok (.iload 4, 2) := by decide +kernel
theorem dX0_read_69 : decode cX0_read 69 = .ok (.iadd, 1) := by decide +kernel
theorem dX0_read_70 : decode cX0_read 70 = .ok (.aload_n 0, 1) := by decide +kernel
theorem dX0_read_71 : decode cX0_read 71 = .ok (.getfield 9, 3) := by decide +kernel
theorem dX0_read_74 : decode cX0_read 74 = .ok (.iload 4, 2) := by decide +kernel
theorem dX0_read_76 : decode cX0_read 76 = .ok (.iload_n 1, 1) := by decide +kernel
theorem dX0_read_77 : decode cX0_read 77 = .ok (.iload_n 3, 1) := by decide +kernel
theorem dX0_read_78 : decode cX0_read 78 = .ok (.invokevirtual 40, 3) := by decide +kernel
theorem dX0_read_81 : decode cX0_read 81 = .ok (.i2l, 1) := by decide +kernel
theorem dX0_read_82 : decode cX0_read 82 = .ok (.lload 5, 2) := by decide +kernel
theorem dX0_read_84 : decode cX0_read 84 = .ok (.lmul, 1) := by decide +kernel
theorem dX0_read_85 : decode cX0_read 85 = .ok (.lastore, 1) := by decide +kernel
theorem dX0_read_86 : decode cX0_read 86 = .ok (.iinc 4 1, 3) := by decide +kernel
theorem dX0_read_89 : decode cX0_read 89 = .ok (.goto (-68), 3) := by decide +kernel
theorem dX0_read_92 : decode cX0_read 92 = .ok (.iinc 3 (-1), 3) := by decide +kernel
theorem dX0_read_95 : decode cX0_read 95 = .ok (.goto (-81), 3) := by decide +kernel
theorem dX0_read_98 : decode cX0_read 98 = .ok (.aload_n 0, 1) := by decide +kernel
theorem dX0_read_99 : decode cX0_read 99 = .ok (.getfield 19, 3) := by decide +kernel
theorem dX0_read_102 : decode cX0_read 102 = .ok (.iconst 0, 1) := by decide +kernel
theorem dX0_read_103 : decode cX0_read 103 = .ok (.aload_n 0, 1) := by decide +kernel
theorem dX0_read_104 : decode cX0_read 104 = .ok (.invokevirtual 44, 3) := by decide +kernel
theorem dX0_read_107 : decode cX0_read 107 = .ok (.iastore, 1) := by decide +kernel
theorem dX0_read_108 : decode cX0_read 108 = .ok (.aload_n 0, 1) := by decide +kernel
theorem dX0_read_109 : decode cX0_read 109 = .ok (.aload_n 0, 1) := by decide +kernel
theorem dX0_read_110 : decode cX0_read 110 = .ok (.aload_n 0, 1) := by decide +kernel
theorem dX0_read_111 : decode cX0_read 111 = .ok (.getfield 19, 3) := by decide +kernel
theorem dX0_read_114 : decode cX0_read 114 = .ok (.iconst 0, 1) := by decide +kernel
theorem dX0_read_115 : decode cX0_read 115 = .ok (.iaload, 1) := by decide +kernel
theorem dX0_read_116 : decode cX0_read 116 = .ok (.invokevirtual 48, 3) := by decide +kernel
theorem dX0_read_119 : decode cX0_read 119 = .ok (.putfield 52, 3) := by decide +kernel
theorem dX0_read_122 : decode cX0_read 122 = .ok (.iconst 1, 1) := by decide +kernel
theorem dX0_read_123 : decode cX0_read 123 = .ok (.istore_n 3, 1) := by decide +kernel
theorem dX0_read_124 : decode cX0_read 124 = .ok (.iload_n 3, 1) := by decide +kernel
theorem dX0_read_125 : decode cX0_read 125 = .ok (.iload_n 2, 1) := by decide +kernel
theorem dX0_read_126 : decode cX0_read 126 = .ok (.if_icmp .ge 30, 3) := by decide +kernel
theorem dX0_read_129 : decode cX0_read 129 = .ok (.aload_n 0, 1) := by decide +kernel
theorem dX0_read_130 : decode cX0_read 130 = .ok (.getfield 19, 3) := by decide +kernel
theorem dX0_read_133 : decode cX0_read 133 = .ok (.iload_n 3, 1) := by decide +kernel
theorem dX0_read_134 : decode cX0_read 134 = .ok (.aload_n 0, 1) := by decide +kernel
theorem dX0_read_135 : decode cX0_read 135 = .ok (.iload_n 3, 1) := by decide +kernel
theorem dX0_read_136 : decode cX0_read 136 = .ok (.iconst 1, 1) := by decide +kernel
theorem dX0_read_137 : decode cX0_read 137 = .ok (.isub, 1) := by decide +kernel
theorem dX0_read_138 : decode cX0_read 138 = .ok (.aload_n 0, 1) := by decide +kernel
theorem dX0_read_139 : decode cX0_read 139 = .ok (.getfield 19, 3) := by decide +kernel
theorem dX0_read_142 : decode cX0_read 142 = .ok (.iload_n 3, 1) := by decide +kernel
theorem dX0_read_143 : decode cX0_read 143 = .ok (.iconst 1, 1) := by decide +kernel
theorem dX0_read_144 : decode cX0_read 144 = .ok (.isub, 1) := by decide +kernel
theorem dX0_read_145 : decode cX0_read 145 = .ok (.iaload, 1) := by decide +kernel
theorem dX0_read_146 : decode cX0_read 146 = .ok (.invokevirtual 32, 3) := by decide +kernel
theorem dX0_read_149 : decode cX0_read 149 = .ok (.iastore, 1) := by decide +kernel
theorem dX0_read_150 : decode cX0_read 150 = .ok (.iinc 3 1, 3) := by decide +kernel
theorem dX0_read_153 : decode cX0_read 153 = .ok (.goto (-29), 3) := by decide +kernel
theorem dX0_read_156 : decode cX0_read 156 = .ok (.return_, 1) := by decide +kernel
theorem dX0_beginning_0 : decode cX0_beginning 0 = .ok (.aload_n 0, 1) := by decide +kernel
theorem dX0_beginning_1 : decode cX0_beginning 1 = .ok (.getfield 9, 3) := by decide +kernel
theorem dX0_beginning_4 : decode cX0_beginning 4 = .ok (.iload_n 1, 1) := by decide +kernel
theorem dX0_beginning_5 : decode cX0_beginning 5 = .ok (.invokevirtual 56, 3) := by decide +kernel
theorem dX0_beginning_8 : decode cX0_beginning 8 = .ok (.i2l, 1) := by decide +kernel
theorem dX0_beginning_9 : decode cX0_beginning 9 = .ok (.aload_n 0, 1) := by decide +kernel
theorem dX0_beginning_10 : decode cX0_beginning 10 = .ok (.getfield 15, 3) := by decide +kernel
theorem dX0_beginning_13 : decode cX0_beginning 13 = .ok (.iload_n 1, 1) := by decide +kernel
theorem dX0_beginning_14 : decode cX0_beginning 14 = .ok (.laload, 1) := by decide +kernel
theorem dX0_beginning_15 : decode cX0_beginning 15 = .ok (.lmul, 1) := by decide +kernel
theorem dX0_beginning_16 : decode cX0_beginning 16 = .ok (.lreturn, 1) := by decide +kernel
theorem dX0_going_0 : decode cX0_going 0 = .ok (.aload_n 0, 1) := by decide +kernel
theorem dX0_going_1 : decode cX0_going 1 = .ok (.getfield 9, 3) := by decide +kernel
theorem dX0_going_4 : decode cX0_going 4 = .ok (.iload_n 2, 1) := by decide +kernel
theorem dX0_going_5 : decode cX0_going 5 = .ok (.iload_n 3, 1) := by decide +kernel
theorem dX0_going_6 : decode cX0_going 6 = .ok (.invokevirtual 60, 3) := by decide +kernel
theorem dX0_going_9 : decode cX0_going 9 = .ok (.i2l, 1) := by decide +kernel
theorem dX0_going_10 : decode cX0_going 10 = .ok (.aload_n 0, 1) := by decide +kernel
theorem dX0_going_11 : decode cX0_going 11 = .ok (.getfield 15, 3) := by decide +kernel
theorem dX0_going_14 : decode cX0_going 14 = .ok (.iload_n 1, 1) := by decide +kernel
theorem dX0_going_15 : decode cX0_going 15 = .ok (.iconst 1, 1) := by decide +kernel
theorem dX0_going_16 : decode cX0_going 16 = .ok (.iadd, 1) := by decide +kernel
theorem dX0_going_17 : decode cX0_going 17 = .ok (.iconst 4, 1) := by decide +kernel
theorem dX0_going_18 : decode cX0_going 18 = .ok (.imul, 1) := by decide +kernel
theorem dX0_going_19 : decode cX0_going 19 = .ok (.iload_n 3, 1) := by decide +kernel
theorem dX0_going_20 : decode cX0_going 20 = .ok (.iadd, 1) := by decide +kernel
theorem dX0_going_21 : decode cX0_going 21 = .ok (.laload, 1) := by decide +kernel
theorem dX0_going_22 : decode cX0_going 22 = .ok (.lmul, 1) := by decide +kernel
theorem dX0_going_23 : decode cX0_going 23 = .ok (.lreturn, 1) := by decide +kernel
theorem dX0_firstOf_0 : decode cX0_firstOf 0 = .ok (.iconst 0, 1) := by decide +kernel
theorem dX0_firstOf_1 : decode cX0_firstOf 1 = .ok (.istore_n 1, 1) := by decide +kernel
theorem dX0_firstOf_2 : decode cX0_firstOf 2 = .ok (.iconst 1, 1) := by decide +kernel
theorem dX0_firstOf_3 : decode cX0_firstOf 3 = .ok (.istore_n 2, 1) := by decide +kernel
theorem dX0_firstOf_4 : decode cX0_firstOf 4 = .ok (.iload_n 2, 1) := by decide +kernel
theorem dX0_firstOf_5 : decode cX0_firstOf 5 = .ok (.aload_n 0, 1) := by decide +kernel
theorem dX0_firstOf_6 : decode cX0_firstOf 6 = .ok (.getfield 9, 3) := by decide +kernel
theorem dX0_firstOf_9 : decode cX0_firstOf 9 = .ok (.getfield 28, 3) := by decide +kernel
theorem dX0_firstOf_12 : decode cX0_firstOf 12 = .ok (.if_icmp .ge 25, 3) := by decide +kernel
theorem dX0_firstOf_15 : decode cX0_firstOf 15 = .ok (.aload_n 0, 1) := by decide +kernel
theorem dX0_firstOf_16 : decode cX0_firstOf 16 = .ok (.iload_n 2, 1) := by decide +kernel
theorem dX0_firstOf_17 : decode cX0_firstOf 17 = .ok (.invokevirtual 48, 3) := by decide +kernel
theorem dX0_firstOf_20 : decode cX0_firstOf 20 = .ok (.aload_n 0, 1) := by decide +kernel
theorem dX0_firstOf_21 : decode cX0_firstOf 21 = .ok (.iload_n 1, 1) := by decide +kernel
theorem dX0_firstOf_22 : decode cX0_firstOf 22 = .ok (.invokevirtual 48, 3) := by decide +kernel
theorem dX0_firstOf_25 : decode cX0_firstOf 25 = .ok (.lcmp, 1) := by decide +kernel
theorem dX0_firstOf_26 : decode cX0_firstOf 26 = .ok (.ifCond .le 5, 3) := by decide +kernel
theorem dX0_firstOf_29 : decode cX0_firstOf 29 = .ok (.iload_n 2, 1) := by decide +kernel
theorem dX0_firstOf_30 : decode cX0_firstOf 30 = .ok (.istore_n 1, 1) := by decide +kernel
theorem dX0_firstOf_31 : decode cX0_firstOf 31 = .ok (.iinc 2 1, 3) := by decide +kernel
theorem dX0_firstOf_34 : decode cX0_firstOf 34 = .ok (.goto (-30), 3) := by decide +kernel
theorem dX0_firstOf_37 : decode cX0_firstOf 37 = .ok (.iload_n 1, 1) := by decide +kernel
theorem dX0_firstOf_38 : decode cX0_firstOf 38 = .ok (.ireturn, 1) := by decide +kernel
theorem dX0_nextOf_0 : decode cX0_nextOf 0 = .ok (.iconst 0, 1) := by decide +kernel
theorem dX0_nextOf_1 : decode cX0_nextOf 1 = .ok (.istore_n 3, 1) := by decide +kernel
theorem dX0_nextOf_2 : decode cX0_nextOf 2 = .ok (.iconst 1, 1) := by decide +kernel
theorem dX0_nextOf_3 : decode cX0_nextOf 3 = .ok (.istore 4, 2) := by decide +kernel
theorem dX0_nextOf_5 : decode cX0_nextOf 5 = .ok (.iload 4, 2) := by decide +kernel
theorem dX0_nextOf_7 : decode cX0_nextOf 7 = .ok (.aload_n 0, 1) := by decide +kernel
theorem dX0_nextOf_8 : decode cX0_nextOf 8 = .ok (.getfield 9, 3) := by decide +kernel
theorem dX0_nextOf_11 : decode cX0_nextOf 11 = .ok (.getfield 28, 3) := by decide +kernel
theorem dX0_nextOf_14 : decode cX0_nextOf 14 = .ok (.if_icmp .ge 31, 3) := by decide +kernel
theorem dX0_nextOf_17 : decode cX0_nextOf 17 = .ok (.aload_n 0, 1) := by decide +kernel
theorem dX0_nextOf_18 : decode cX0_nextOf 18 = .ok (.iload_n 1, 1) := by decide +kernel
theorem dX0_nextOf_19 : decode cX0_nextOf 19 = .ok (.iload_n 2, 1) := by decide +kernel
theorem dX0_nextOf_20 : decode cX0_nextOf 20 = .ok (.iload 4, 2) := by decide +kernel
theorem dX0_nextOf_22 : decode cX0_nextOf 22 = .ok (.invokevirtual 36, 3) := by decide +kernel
theorem dX0_nextOf_25 : decode cX0_nextOf 25 = .ok (.aload_n 0, 1) := by decide +kernel
theorem dX0_nextOf_26 : decode cX0_nextOf 26 = .ok (.iload_n 1, 1) := by decide +kernel
theorem dX0_nextOf_27 : decode cX0_nextOf 27 = .ok (.iload_n 2, 1) := by decide +kernel
theorem dX0_nextOf_28 : decode cX0_nextOf 28 = .ok (.iload_n 3, 1) := by decide +kernel
theorem dX0_nextOf_29 : decode cX0_nextOf 29 = .ok (.invokevirtual 36, 3) := by decide +kernel
theorem dX0_nextOf_32 : decode cX0_nextOf 32 = .ok (.lcmp, 1) := by decide +kernel
theorem dX0_nextOf_33 : decode cX0_nextOf 33 = .ok (.ifCond .le 6, 3) := by decide +kernel
theorem dX0_nextOf_36 : decode cX0_nextOf 36 = .ok (.iload 4, 2) := by decide +kernel
theorem dX0_nextOf_38 : decode cX0_nextOf 38 = .ok (.istore_n 3, 1) := by decide +kernel
theorem dX0_nextOf_39 : decode cX0_nextOf 39 = .ok (.iinc 4 1, 3) := by decide +kernel
theorem dX0_nextOf_42 : decode cX0_nextOf 42 = .ok (.goto (-37), 3) := by decide +kernel
theorem dX0_nextOf_45 : decode cX0_nextOf 45 = .ok (.iload_n 3, 1) := by decide +kernel
theorem dX0_nextOf_46 : decode cX0_nextOf 46 = .ok (.ireturn, 1) := by decide +kernel
theorem dX1_init_0 : decode cX1_init 0 = .ok (.aload_n 0, 1) := by decide +kernel
theorem dX1_init_1 : decode cX1_init 1 = .ok (.invokespecial 3, 3) := by decide +kernel
theorem dX1_init_4 : decode cX1_init 4 = .ok (.aload_n 0, 1) := by decide +kernel
theorem dX1_init_5 : decode cX1_init 5 = .ok (.iconst 4, 1) := by decide +kernel
theorem dX1_init_6 : decode cX1_init 6 = .ok (.anewarray 9, 3) := by decide +kernel
theorem dX1_init_9 : decode cX1_init 9 = .ok (.putfield 11, 3) := by decide +kernel
theorem dX1_init_12 : decode cX1_init 12 = .ok (.iconst 0, 1) := by decide +kernel
theorem dX1_init_13 : decode cX1_init 13 = .ok (.istore_n 1, 1) := by decide +kernel
theorem dX1_init_14 : decode cX1_init 14 = .ok (.iload_n 1, 1) := by decide +kernel
theorem dX1_init_15 : decode cX1_init 15 = .ok (.iconst 4, 1) := by decide +kernel
theorem dX1_init_16 : decode cX1_init 16 = .ok (.if_icmp .ge 22, 3) := by decide +kernel
theorem dX1_init_19 : decode cX1_init 19 = .ok (.aload_n 0, 1) := by decide +kernel
theorem dX1_init_20 : decode cX1_init 20 = .ok (.getfield 11, 3) := by decide +kernel
theorem dX1_init_23 : decode cX1_init 23 = .ok (.iload_n 1, 1) := by decide +kernel
theorem dX1_init_24 : decode cX1_init 24 = .ok (.new 9, 3) := by decide +kernel
theorem dX1_init_27 : decode cX1_init 27 = .ok (.dup, 1) := by decide +kernel
theorem dX1_init_28 : decode cX1_init 28 = .ok (.invokespecial 17, 3) := by decide +kernel
theorem dX1_init_31 : decode cX1_init 31 = .ok (.aastore, 1) := by decide +kernel
theorem dX1_init_32 : decode cX1_init 32 = .ok (.iinc 1 1, 3) := by decide +kernel
theorem dX1_init_35 : decode cX1_init 35 = .ok (.goto (-21), 3) := by decide +kernel
theorem dX1_init_38 : decode cX1_init 38 = .ok (.return_, 1) := by decide +kernel
theorem dX1_record_0 : decode cX1_record 0 = .ok (.aload_n 0, 1) := by decide +kernel
theorem dX1_record_1 : decode cX1_record 1 = .ok (.getfield 18, 3) := by decide +kernel
theorem dX1_record_4 : decode cX1_record 4 = .ok (.iconst 4, 1) := by decide +kernel
theorem dX1_record_5 : decode cX1_record 5 = .ok (.if_icmp .ne 7, 3) := by decide +kernel
theorem dX1_record_8 : decode cX1_record 8 = .ok (.aload_n 0, 1) := by decide +kernel
theorem dX1_record_9 : decode cX1_record 9 = .ok (.invokevirtual 22, 3) := by decide +kernel
theorem dX1_record_12 : decode cX1_record 12 = .ok (.aload_n 0, 1) := by decide +kernel
theorem dX1_record_13 : decode cX1_record 13 = .ok (.getfield 11, 3) := by decide +kernel
theorem dX1_record_16 : decode cX1_record 16 = .ok (.aload_n 0, 1) := by decide +kernel
theorem dX1_record_17 : decode cX1_record 17 = .ok (.getfield 18, 3) := by decide +kernel
theorem dX1_record_20 : decode cX1_record 20 = .ok (.aaload, 1) := by decide +kernel
theorem dX1_record_21 : decode cX1_record 21 = .ok (.aload_n 1, 1) := by decide +kernel
theorem dX1_record_22 : decode cX1_record 22 = .ok (.invokevirtual 25, 3) := by decide +kernel
theorem dX1_record_25 : decode cX1_record 25 = .ok (.aload_n 0, 1) := by decide +kernel
theorem dX1_record_26 : decode cX1_record 26 = .ok (.dup, 1) := by decide +kernel
theorem dX1_record_27 : decode cX1_record 27 = .ok (.getfield 18, 3) := by decide +kernel
theorem dX1_record_30 : decode cX1_record 30 = .ok (.iconst 1, 1) := by decide +kernel
theorem dX1_record_31 : decode cX1_record 31 = .ok (.iadd, 1) := by decide +kernel
theorem dX1_record_32 : decode cX1_record 32 = .ok (.putfield 18, 3) := by decide +kernel
theorem dX1_record_35 : decode cX1_record 35 = .ok (.return_, 1) := by decide +kernel
theorem dX1_dropOldest_0 : decode cX1_dropOldest 0 = .ok (.aload_n 0, 1) := by decide +kernel
theorem dX1_dropOldest_1 : decode cX1_dropOldest 1 = .ok (.getfield 11, 3) := by decide +kernel
theorem dX1_dropOldest_4 : decode cX1_dropOldest 4 = .ok (.iconst 0, 1) := by decide +kernel
theorem dX1_dropOldest_5 : decode cX1_dropOldest 5 = .ok (.aaload, 1) := by decide +kernel
theorem dX1_dropOldest_6 : decode cX1_dropOldest 6 = .ok (.astore_n 1, 1) := by decide +kernel
theorem dX1_dropOldest_7 : decode cX1_dropOldest 7 = .ok (.iconst 1, 1) := by decide +kernel
theorem dX1_dropOldest_8 : decode cX1_dropOldest 8 = .ok (.istore_n 2, 1) := by decide +kernel
theorem dX1_dropOldest_9 : decode cX1_dropOldest 9 = .ok (.iload_n 2, 1) := by decide +kernel
theorem dX1_dropOldest_10 : decode cX1_dropOldest 10 = .ok (.iconst 4, 1) := by decide +kernel
theorem dX1_dropOldest_11 : decode cX1_dropOldest 11 = .ok (.if_icmp .ge 23, 3) := by decide +kernel
theorem dX1_dropOldest_14 : decode cX1_dropOldest 14 = .ok (.aload_n 0, 1) := by decide +kernel
theorem dX1_dropOldest_15 : decode cX1_dropOldest 15 = .ok (.getfield 11, 3) := by decide +kernel
theorem dX1_dropOldest_18 : decode cX1_dropOldest 18 = .ok (.iload_n 2, 1) := by decide +kernel
theorem dX1_dropOldest_19 : decode cX1_dropOldest 19 = .ok (.iconst 1, 1) := by decide +kernel
theorem dX1_dropOldest_20 : decode cX1_dropOldest 20 = .ok (.isub, 1) := by decide +kernel
theorem dX1_dropOldest_21 : decode cX1_dropOldest 21 = .ok (.aload_n 0, 1) := by decide +kernel
theorem dX1_dropOldest_22 : decode cX1_dropOldest 22 = .ok (.getfield 11, 3) := by decide +kernel
theorem dX1_dropOldest_25 : decode cX1_dropOldest 25 = .ok (.iload_n 2, 1) := by decide +kernel
theorem dX1_dropOldest_26 : decode cX1_dropOldest 26 = .ok (.aaload, 1) := by decide +kernel
theorem dX1_dropOldest_27 : decode cX1_dropOldest 27 = .ok (.aastore, 1) := by decide +kernel
theorem dX1_dropOldest_28 : decode cX1_dropOldest 28 = .ok (.iinc 2 1, 3) := by decide +kernel
theorem dX1_dropOldest_31 : decode cX1_dropOldest 31 = .ok (.goto (-22), 3) := by decide +kernel
theorem dX1_dropOldest_34 : decode cX1_dropOldest 34 = .ok (.aload_n 0, 1) := by decide +kernel
theorem dX1_dropOldest_35 : decode cX1_dropOldest 35 = .ok (.getfield 11, 3) := by decide +kernel
theorem dX1_dropOldest_38 : decode cX1_dropOldest 38 = .ok (.iconst 3, 1) := by decide +kernel
theorem dX1_dropOldest_39 : decode cX1_dropOldest 39 = .ok (.aload_n 1, 1) := by decide +kernel
theorem dX1_dropOldest_40 : decode cX1_dropOldest 40 = .ok (.aastore, 1) := by decide +kernel
theorem dX1_dropOldest_41 : decode cX1_dropOldest 41 = .ok (.aload_n 0, 1) := by decide +kernel
theorem dX1_dropOldest_42 : decode cX1_dropOldest 42 = .ok (.dup, 1) := by decide +kernel
theorem dX1_dropOldest_43 : decode cX1_dropOldest 43 = .ok (.getfield 18, 3) := by decide +kernel
theorem dX1_dropOldest_46 : decode cX1_dropOldest 46 = .ok (.iconst 1, 1) := by decide +kernel
theorem dX1_dropOldest_47 : decode cX1_dropOldest 47 = .ok (.isub, 1) := by decide +kernel
theorem dX1_dropOldest_48 : decode cX1_dropOldest 48 = .ok (.putfield 18, 3) := by decide +kernel
theorem dX1_dropOldest_51 : decode cX1_dropOldest 51 = .ok (.return_, 1) := by decide +kernel
theorem dX1_takeLatest_0 : decode cX1_takeLatest 0 = .ok (.aload_n 0, 1) := by decide +kernel
theorem dX1_takeLatest_1 : decode cX1_takeLatest 1 = .ok (.dup, 1) := by decide +kernel
theorem dX1_takeLatest_2 : decode cX1_takeLatest 2 = .ok (.getfield 18, 3) := by decide +kernel
theorem dX1_takeLatest_5 : decode cX1_takeLatest 5 = .ok (.iconst 1, 1) := by decide +kernel
theorem dX1_takeLatest_6 : decode cX1_takeLatest 6 = .ok (.isub, 1) := by decide +kernel
theorem dX1_takeLatest_7 : decode cX1_takeLatest 7 = .ok (.putfield 18, 3) := by decide +kernel
theorem dX1_takeLatest_10 : decode cX1_takeLatest 10 = .ok (.aload_n 1, 1) := by decide +kernel
theorem dX1_takeLatest_11 : decode cX1_takeLatest 11 = .ok (.aload_n 0, 1) := by decide +kernel
theorem dX1_takeLatest_12 : decode cX1_takeLatest 12 = .ok (.getfield 11, 3) := by decide +kernel
theorem dX1_takeLatest_15 : decode cX1_takeLatest 15 = .ok (.aload_n 0, 1) := by decide +kernel
theorem dX1_takeLatest_16 : decode cX1_takeLatest 16 = .ok (.getfield 18, 3) := by decide +kernel
theorem dX1_takeLatest_19 : decode cX1_takeLatest 19 = .ok (.aaload, 1) := by decide +kernel
theorem dX1_takeLatest_20 : decode cX1_takeLatest 20 = .ok (.invokevirtual 25, 3) := by decide +kernel
theorem dX1_takeLatest_23 : decode cX1_takeLatest 23 = .ok (.return_, 1) := by decide +kernel
theorem dX2_init_0 : decode cX2_init 0 = .ok (.aload_n 0, 1) := by decide +kernel
theorem dX2_init_1 : decode cX2_init 1 = .ok (.invokespecial 3, 3) := by decide +kernel
theorem dX2_init_4 : decode cX2_init 4 = .ok (.aload_n 0, 1) := by decide +kernel
theorem dX2_init_5 : decode cX2_init 5 = .ok (.aload_n 1, 1) := by decide +kernel
theorem dX2_init_6 : decode cX2_init 6 = .ok (.putfield 9, 3) := by decide +kernel
theorem dX2_init_9 : decode cX2_init 9 = .ok (.aload_n 0, 1) := by decide +kernel
theorem dX2_init_10 : decode cX2_init 10 = .ok (.aload_n 2, 1) := by decide +kernel
theorem dX2_init_11 : decode cX2_init 11 = .ok (.putfield 15, 3) := by decide +kernel
theorem dX2_init_14 : decode cX2_init 14 = .ok (.aload_n 0, 1) := by decide +kernel
theorem dX2_init_15 : decode cX2_init 15 = .ok (.bipush 32, 2) := by decide +kernel
theorem dX2_init_17 : decode cX2_init 17 = .ok (.newarray .int, 2) := by decide +kernel
theorem dX2_init_19 : decode cX2_init 19 = .ok (.putfield 21, 3) := by decide +kernel
theorem dX2_init_22 : decode cX2_init 22 = .ok (.aload_n 0, 1) := by decide +kernel
theorem dX2_init_23 : decode cX2_init 23 = .ok (.bipush 32, 2) := by decide +kernel
theorem dX2_init_25 : decode cX2_init 25 = .ok (.newarray .int, 2) := by decide +kernel
theorem dX2_init_27 : decode cX2_init 27 = .ok (.putfield 25, 3) := by decide +kernel
theorem dX2_init_30 : decode cX2_init 30 = .ok (.return_, 1) := by decide +kernel
theorem dX2_prepareRound_0 : decode cX2_prepareRound 0 = .ok (.aload_n 0, 1) := by decide +kernel
theorem dX2_prepareRound_1 : decode cX2_prepareRound 1 = .ok (.getfield 21, 3) := by decide +kernel
theorem dX2_prepareRound_4 : decode cX2_prepareRound 4 = .ok (.iconst 0, 1) := by decide +kernel
theorem dX2_prepareRound_5 : decode cX2_prepareRound 5 = .ok (.invokestatic 28, 3) := by decide +kernel
theorem dX2_prepareRound_8 : decode cX2_prepareRound 8 = .ok (.iconst 0, 1) := by decide +kernel
theorem dX2_prepareRound_9 : decode cX2_prepareRound 9 = .ok (.istore_n 1, 1) := by decide +kernel
theorem dX2_prepareRound_10 : decode cX2_prepareRound 10 = .ok (.iload_n 1, 1) := by decide +kernel
theorem dX2_prepareRound_11 : decode cX2_prepareRound 11 = .ok (.aload_n 0, 1) := by decide +kernel
theorem dX2_prepareRound_12 : decode cX2_prepareRound 12 = .ok (.getfield 9, 3) := by decide +kernel
theorem dX2_prepareRound_15 : decode cX2_prepareRound 15 = .ok (.getfield 34, 3) := by decide +kernel
theorem dX2_prepareRound_18 : decode cX2_prepareRound 18 = .ok (.if_icmp .ge 33, 3) := by decide +kernel
theorem dX2_prepareRound_21 : decode cX2_prepareRound 21 = .ok (.aload_n 0, 1) := by decide +kernel
theorem dX2_prepareRound_22 : decode cX2_prepareRound 22 = .ok (.getfield 15, 3) := by decide +kernel
theorem dX2_prepareRound_25 : decode cX2_prepareRound 25 = .ok (.iload_n 1, 1) := by decide +kernel
theorem dX2_prepareRound_26 : decode cX2_prepareRound 26 = .ok (.invokevirtual 38, 3) := by decide +kernel
theorem dX2_prepareRound_29 : decode cX2_prepareRound 29 = .ok (.aload_n 0, 1) := by decide +kernel
theorem dX2_prepareRound_30 : decode cX2_prepareRound 30 = .ok (.getfield 15, 3) := by decide +kernel
theorem dX2_prepareRound_33 : decode cX2_prepareRound 33 = .ok (.getfield 44, 3) := by decide +kernel
theorem dX2_prepareRound_36 : decode cX2_prepareRound 36 = .ok (.lconst 0, 1) := by decide +kernel
theorem dX2_prepareRound_37 : decode cX2_prepareRound 37 = .ok (.lcmp, 1) := by decide +kernel
theorem dX2_prepareRound_38 : decode cX2_prepareRound 38 = .ok (.ifCond .le 7, 3) := by decide +kernel
theorem dX2_prepareRound_41 : decode cX2_prepareRound 41 = .ok (.aload_n 0, 1) := by decide +kernel
theorem dX2_prepareRound_42 : decode cX2_prepareRound 42 = .ok (.invokevirtual 48, 3) := by decide +kernel
theorem dX2_prepareRound_45 : decode cX2_prepareRound 45 = .ok (.iinc 1 1, 3) := by decide +kernel
theorem dX2_prepareRound_48 : decode cX2_prepareRound 48 = .ok (.goto (-38), 3) := by decide +kernel
theorem dX2_prepareRound_51 : decode cX2_prepareRound 51 = .ok (.aload_n 0, 1) := by decide +kernel
theorem dX2_prepareRound_52 : decode cX2_prepareRound 52 = .ok (.getfield 9, 3) := by decide +kernel
theorem dX2_prepareRound_55 : decode cX2_prepareRound 55 = .ok (.getfield 51, 3) := by decide +kernel
theorem dX2_prepareRound_58 : decode cX2_prepareRound 58 = .ok (.iconst 0, 1) := by decide +kernel
theorem dX2_prepareRound_59 : decode cX2_prepareRound 59 = .ok (.aload_n 0, 1) := by decide +kernel
theorem dX2_prepareRound_60 : decode cX2_prepareRound 60 = .ok (.getfield 25, 3) := by decide +kernel
theorem dX2_prepareRound_63 : decode cX2_prepareRound 63 = .ok (.iconst 0, 1) := by decide +kernel
theorem dX2_prepareRound_64 : decode cX2_prepareRound 64 = .ok (.bipush 32, 2) := by decide +kernel
theorem dX2_prepareRound_66 : decode cX2_prepareRound 66 = .ok (.invokestatic 54, 3) := by decide +kernel
theorem dX2_prepareRound_69 : decode cX2_prepareRound 69 = .ok (.aload_n 0, 1) := by decide +kernel
theorem dX2_prepareRound_70 : decode cX2_prepareRound 70 = .ok (.iconst 0, 1) := by decide +kernel
theorem dX2_prepareRound_71 : decode cX2_prepareRound 71 = .ok (.iconst 0, 1) := by decide +kernel
theorem dX2_prepareRound_72 : decode cX2_prepareRound 72 = .ok (.invokevirtual 60, 3) := by decide +kernel
theorem dX2_prepareRound_75 : decode cX2_prepareRound 75 = .ok (.iconst 0, 1) := by decide +kernel
theorem dX2_prepareRound_76 : decode cX2_prepareRound 76 = .ok (.istore_n 1, 1) := by decide +kernel
theorem dX2_prepareRound_77 : decode cX2_prepareRound 77 = .ok (.iload_n 1, 1) := by decide +kernel
theorem dX2_prepareRound_78 : decode cX2_prepareRound 78 = .ok (.aload_n 0, 1) := by decide +kernel
theorem dX2_prepareRound_79 : decode cX2_prepareRound 79 = .ok (.getfield 9, 3) := by decide +kernel
theorem dX2_prepareRound_82 : decode cX2_prepareRound 82 = .ok (.getfield 64, 3) := by decide +kernel
theorem dX2_prepareRound_85 : decode cX2_prepareRound 85 = .ok (.if_icmp .ge 21, 3) := by decide +kernel
theorem dX2_prepareRound_88 : decode cX2_prepareRound 88 = .ok (.aload_n 0, 1) := by decide +kernel
theorem dX2_prepareRound_89 : decode cX2_prepareRound 89 = .ok (.iconst 1, 1) := by decide +kernel
theorem dX2_prepareRound_90 : decode cX2_prepareRound 90 = .ok (.iload_n 1, 1) := by decide +kernel
theorem dX2_prepareRound_91 : decode cX2_prepareRound 91 = .ok (.invokevirtual 60, 3) := by decide +kernel
theorem dX2_prepareRound_94 : decode cX2_prepareRound 94 = .ok (.aload_n 0, 1) := by decide +kernel
theorem dX2_prepareRound_95 : decode cX2_prepareRound 95 = .ok (.iconst 2, 1) := by decide +kernel
theorem dX2_prepareRound_96 : decode cX2_prepareRound 96 = .ok (.iload_n 1, 1) := by decide +kernel
theorem dX2_prepareRound_97 : decode cX2_prepareRound 97 = .ok (.invokevirtual 60, 3) := by decide +kernel
theorem dX2_prepareRound_100 : decode cX2_prepareRound 100 = .ok (.iinc 1 1, 3) := by decide +kernel
theorem dX2_prepareRound_103 : decode cX2_prepareRound 103 = .ok (.goto (-26), 3) := by decide +kernel
theorem dX2_prepareRound_106 : decode cX2_prepareRound 106 = .ok (.aload_n 0, 1) := by decide +kernel
theorem dX2_prepareRound_107 : decode cX2_prepareRound 107 = .ok (.invokevirtual 67, 3) := by decide +kernel
theorem dX2_prepareRound_110 : decode cX2_prepareRound 110 = .ok (.ireturn, 1) := by decide +kernel
theorem dX2_finishRound_0 : decode cX2_finishRound 0 = .ok (.aload_n 0, 1) := by decide +kernel
theorem dX2_finishRound_1 : decode cX2_finishRound 1 = .ok (.getfield 25, 3) := by decide +kernel
theorem dX2_finishRound_4 : decode cX2_finishRound 4 = .ok (.iconst 0, 1) := by decide +kernel
theorem dX2_finishRound_5 : decode cX2_finishRound 5 = .ok (.aload_n 0, 1) := by decide +kernel
theorem dX2_finishRound_6 : decode cX2_finishRound 6 = .ok (.getfield 9, 3) := by decide +kernel
theorem dX2_finishRound_9 : decode cX2_finishRound 9 = .ok (.getfield 51, 3) := by decide +kernel
theorem dX2_finishRound_12 : decode cX2_finishRound 12 = .ok (.iconst 0, 1) := by decide +kernel
theorem dX2_finishRound_13 : decode cX2_finishRound 13 = .ok (.bipush 32, 2) := by decide +kernel
theorem dX2_finishRound_15 : decode cX2_finishRound 15 = .ok (.invokestatic 54, 3) := by decide +kernel
theorem dX2_finishRound_18 : decode cX2_finishRound 18 = .ok (.return_, 1) := by decide +kernel
theorem dX2_countSample_0 : decode cX2_countSample 0 = .ok (.iconst 0, 1) := by decide +kernel
theorem dX2_countSample_1 : decode cX2_countSample 1 = .ok (.istore_n 1, 1) := by decide +kernel
theorem dX2_countSample_2 : decode cX2_countSample 2 = .ok (.iload_n 1, 1) := by decide +kernel
theorem dX2_countSample_3 : decode cX2_countSample 3 = .ok (.aload_n 0, 1) := by decide +kernel
theorem dX2_countSample_4 : decode cX2_countSample 4 = .ok (.getfield 9, 3) := by decide +kernel
theorem dX2_countSample_7 : decode cX2_countSample 7 = .ok (.getfield 64, 3) := by decide +kernel
theorem dX2_countSample_10 : decode cX2_countSample 10 = .ok (.if_icmp .ge 98, 3) := by decide +kernel
theorem dX2_countSample_13 : decode cX2_countSample 13 = .ok (.aload_n 0, 1) := by decide +kernel
theorem dX2_countSample_14 : decode cX2_countSample 14 = .ok (.iconst 0, 1) := by decide +kernel
theorem dX2_countSample_15 : decode cX2_countSample 15 = .ok (.iload_n 1, 1) := by decide +kernel
theorem dX2_countSample_16 : decode cX2_countSample 16 = .ok (.iconst 0, 1) := by decide +kernel
theorem dX2_countSample_17 : decode cX2_countSample 17 = .ok (.invokestatic 71, 3) := by decide +kernel
theorem dX2_countSample_20 : decode cX2_countSample 20 = .ok (.aload_n 0, 1) := by decide +kernel
theorem dX2_countSample_21 : decode cX2_countSample 21 = .ok (.getfield 15, 3) := by decide +kernel
theorem dX2_countSample_24 : decode cX2_countSample 24 = .ok (.iconst 0, 1) := by decide +kernel
theorem dX2_countSample_25 : decode cX2_countSample 25 = .ok (.iload_n 1, 1) := by decide +kernel
theorem dX2_countSample_26 : decode cX2_countSample 26 = .ok (.invokevirtual 75, 3) := by decide +kernel
theorem dX2_countSample_29 : decode cX2_countSample 29 = .ok (.invokevirtual 79, 3) := by decide +kernel
theorem dX2_countSample_32 : decode cX2_countSample 32 = .ok (.iconst 0, 1) := by decide +kernel
theorem dX2_countSample_33 : decode cX2_countSample 33 = .ok (.istore_n 2, 1) := by decide +kernel
theorem dX2_countSample_34 : decode cX2_countSample 34 = .ok (.iload_n 2, 1) := by decide +kernel
theorem dX2_countSample_35 : decode cX2_countSample 35 = .ok (.aload_n 0, 1) := by decide +kernel
theorem dX2_countSample_36 : decode cX2_countSample 36 = .ok (.getfield 9, 3) := by decide +kernel
theorem dX2_countSample_39 : decode cX2_countSample 39 = .ok (.getfield 64, 3) := by decide +kernel
theorem dX2_countSample_42 : decode cX2_countSample 42 = .ok (.if_icmp .ge 28, 3) := by decide +kernel
theorem dX2_countSample_45 : decode cX2_countSample 45 = .ok (.aload_n 0, 1) := by decide +kernel
theorem dX2_countSample_46 : decode cX2_countSample 46 = .ok (.iconst 1, 1) := by decide +kernel
theorem dX2_countSample_47 : decode cX2_countSample 47 = .ok (.iload_n 1, 1) := by decide +kernel
theorem dX2_countSample_48 : decode cX2_countSample 48 = .ok (.iload_n 2, 1) := by decide +kernel
theorem dX2_countSample_49 : decode cX2_countSample 49 = .ok (.invokestatic 71, 3) := by decide +kernel
theorem dX2_countSample_52 : decode cX2_countSample 52 = .ok (.aload_n 0, 1) := by decide +kernel
theorem dX2_countSample_53 : decode cX2_countSample 53 = .ok (.getfield 15, 3) := by decide +kernel
theorem dX2_countSample_56 : decode cX2_countSample 56 = .ok (.iload_n 1, 1) := by decide +kernel
theorem dX2_countSample_57 : decode cX2_countSample 57 = .ok (.iload_n 2, 1) := by decide +kernel
theorem dX2_countSample_58 : decode cX2_countSample 58 = .ok (.invokevirtual 83, 3) := by decide +kernel
theorem dX2_countSample_61 : decode cX2_countSample 61 = .ok (.invokevirtual 79, 3) := by decide +kernel
theorem dX2_countSample_64 : decode cX2_countSample 64 = .ok (.iinc 2 1, 3) := by decide +kernel
theorem dX2_countSample_67 : decode cX2_countSample 67 = .ok (.goto (-33), 3) := by decide +kernel
theorem dX2_countSample_70 : decode cX2_countSample 70 = .ok (.iconst 0, 1) := by decide +kernel
theorem dX2_countSample_71 : decode cX2_countSample 71 = .ok (.istore_n 2, 1) := by decide +kernel
theorem dX2_countSample_72 : decode cX2_countSample 72 = .ok (.iload_n 2, 1) := by decide +kernel
theorem dX2_countSample_73 : decode cX2_countSample 73 = .ok (.iconst 3, 1) := by decide +kernel
theorem dX2_countSample_74 : decode cX2_countSample 74 = .ok (.if_icmp .ge 28, 3) := by decide +kernel
theorem dX2_countSample_77 : decode cX2_countSample 77 = .ok (.aload_n 0, 1) := by decide +kernel
theorem dX2_countSample_78 : decode cX2_countSample 78 = .ok (.iconst 2, 1) := by decide +kernel
theorem dX2_countSample_79 : decode cX2_countSample 79 = .ok (.iload_n 1, 1) := by decide +kernel
theorem dX2_countSample_80 : decode cX2_countSample 80 = .ok (.iload_n 2, 1) := by decide +kernel
theorem dX2_countSample_81 : decode cX2_countSample 81 = .ok (.invokestatic 71, 3) := by decide +kernel
theorem dX2_countSample_84 : decode cX2_countSample 84 = .ok (.aload_n 0, 1) := by decide +kernel
theorem dX2_countSample_85 : decode cX2_countSample 85 = .ok (.getfield 15, 3) := by decide +kernel
theorem dX2_countSample_88 : decode cX2_countSample 88 = .ok (.iload_n 1, 1) := by decide +kernel
theorem dX2_countSample_89 : decode cX2_countSample 89 = .ok (.iload_n 2, 1) := by decide +kernel
theorem dX2_countSample_90 : decode cX2_countSample 90 = .ok (.invokevirtual 86, 3) := by decide +kernel
theorem dX2_countSample_93 : decode cX2_countSample 93 = .ok (.invokevirtual 79, 3) := by decide +kernel
theorem dX2_countSample_96 : decode cX2_countSample 96 = .ok (.iinc 2 1, 3) := by decide +kernel
theorem dX2_countSample_99 : decode cX2_countSample 99 = .ok (.goto (-27), 3) := by decide +kernel
theorem dX2_countSample_102 : decode cX2_countSample 102 = .ok (.iinc 1 1, 3) := by decide +kernel
theorem dX2_countSample_105 : decode cX2_countSample 105 = .ok (.goto (-103), 3) := by decide +kernel
theorem dX2_countSample_108 : decode cX2_countSample 108 = .ok (.return_, 1) := by decide +kernel
theorem dX2_addCount_0 : decode cX2_addCount 0 = .ok (.aload_n 0, 1) := by decide +kernel
theorem dX2_addCount_1 : decode cX2_addCount 1 = .ok (.getfield 21, 3) := by decide +kernel
theorem dX2_addCount_4 : decode cX2_addCount 4 = .ok (.iload_n 1, 1) := by decide +kernel
theorem dX2_addCount_5 : decode cX2_addCount 5 = .ok (.dup2, 1) := by decide +kernel
theorem dX2_addCount_6 : decode cX2_addCount 6 = .ok (.iaload, 1) := by decide +kernel
theorem dX2_addCount_7 : decode cX2_addCount 7 = .ok (.lload_n 2, 1) := by decide +kernel
theorem dX2_addCount_8 : decode cX2_addCount 8 = .ok (.aload_n 0, 1) := by decide +kernel
theorem dX2_addCount_9 : decode cX2_addCount 9 = .ok (.getfield 15, 3) := by decide +kernel
theorem dX2_addCount_12 : decode cX2_addCount 12 = .ok (.getfield 44, 3) := by decide +kernel
theorem dX2_addCount_15 : decode cX2_addCount 15 = .ok (.invokestatic 89, 3) := by decide +kernel
theorem dX2_addCount_18 : decode cX2_addCount 18 = .ok (.iadd, 1) := by decide +kernel
theorem dX2_addCount_19 : decode cX2_addCount 19 = .ok (.iastore, 1) := by decide +kernel
theorem dX2_addCount_20 : decode cX2_addCount 20 = .ok (.return_, 1) := by decide +kernel
theorem dX2_makeFamily_0 : decode cX2_makeFamily 0 = .ok (.aload_n 0, 1) := by decide +kernel
theorem dX2_makeFamily_1 : decode cX2_makeFamily 1 = .ok (.getfield 9, 3) := by decide +kernel
theorem dX2_makeFamily_4 : decode cX2_makeFamily 4 = .ok (.iload_n 1, 1) := by decide +kernel
theorem dX2_makeFamily_5 : decode cX2_makeFamily 5 = .ok (.invokevirtual 93, 3) := by decide +kernel
theorem dX2_makeFamily_8 : decode cX2_makeFamily 8 = .ok (.istore_n 3, 1) := by decide +kernel
theorem dX2_makeFamily_9 : decode cX2_makeFamily 9 = .ok (.iconst 0, 1) := by decide +kernel
theorem dX2_makeFamily_10 : decode cX2_makeFamily 10 = .ok (.istore 4, 2) := by decide +kernel
theorem dX2_makeFamily_12 : decode cX2_makeFamily 12 = .ok (.iconst 0, 1) := by decide +kernel
theorem dX2_makeFamily_13 : decode cX2_makeFamily 13 = .ok (.istore 5, 2) := by decide +kernel
theorem dX2_makeFamily_15 : decode cX2_makeFamily 15 = .ok (.iload 5, 2) := by decide +kernel
theorem dX2_makeFamily_17 : decode cX2_makeFamily 17 = .ok (.iload_n 3, 1) := by decide +kernel
theorem dX2_makeFamily_18 : decode cX2_makeFamily 18 = .ok (.if_icmp .ge 28, 3) := by decide +kernel
theorem dX2_makeFamily_21 : decode cX2_makeFamily 21 = .ok (.iload 4, 2) := by decide +kernel
theorem dX2_makeFamily_23 : decode cX2_makeFamily 23 = .ok (.aload_n 0, 1) := by decide +kernel
theorem dX2_makeFamily_24 : decode cX2_makeFamily 24 = .ok (.getfield 21, 3) := by decide +kernel
theorem dX2_makeFamily_27 : decode cX2_makeFamily 27 = .ok (.iload_n 1, 1) := by decide +kernel
theorem dX2_makeFamily_28 : decode cX2_makeFamily 28 = .ok (.iload_n 2, 1) := by decide +kernel
theorem dX2_makeFamily_29 : decode cX2_makeFamily 29 = .ok (.iload 5, 2) := by decide +kernel
theorem dX2_makeFamily_31 : decode cX2_makeFamily 31 = .ok (.invokestatic 97, 3) := by decide +kernel
theorem dX2_makeFamily_34 : decode cX2_makeFamily 34 = .ok (.iaload, 1) := by decide +kernel
theorem dX2_makeFamily_35 : decode cX2_makeFamily 35 = .ok (.invokestatic 100, 3) := by decide +kernel
theorem dX2_makeFamily_38 : decode cX2_makeFamily 38 = .ok (.istore 4, 2) := by decide +kernel
theorem dX2_makeFamily_40 : decode cX2_makeFamily 40 = .ok (.iinc 5 1, 3) := by decide +kernel
theorem dX2_makeFamily_43 : decode cX2_makeFamily 43 = .ok (.goto (-28), 3) := by decide +kernel
theorem dX2_makeFamily_46 : decode cX2_makeFamily 46 = .ok (.iload 4, 2) := by decide +kernel
theorem dX2_makeFamily_48 : decode cX2_makeFamily 48 = .ok (.ifCond .gt 4, 3) := by decide +kernel
theorem dX2_makeFamily_51 : decode cX2_makeFamily 51 = .ok (.return_, 1) := by decide +kernel
theorem dX2_makeFamily_52 : decode cX2_makeFamily 52 = .ok (.iconst 0, 1) := by decide +kernel
theorem dX2_makeFamily_53 : decode cX2_makeFamily 53 = .ok (.istore 5, 2) := by decide +kernel
theorem dX2_makeFamily_55 : decode cX2_makeFamily 55 = .ok (.iload 5, 2) := by decide +kernel
theorem dX2_makeFamily_57 : decode cX2_makeFamily 57 = .ok (.iload_n 3, 1) := by decide +kernel
theorem dX2_makeFamily_58 : decode cX2_makeFamily 58 = .ok (.if_icmp .ge 43, 3) := by decide +kernel
theorem dX2_makeFamily_61 : decode cX2_makeFamily 61 = .ok (.iload_n 1, 1) := by decide +kernel
theorem dX2_makeFamily_62 : decode cX2_makeFamily 62 = .ok (.iload_n 2, 1) := by decide +kernel
theorem dX2_makeFamily_63 : decode cX2_makeFamily 63 = .ok (.iload 5, 2) := by decide +kernel
theorem dX2_makeFamily_65 : decode cX2_makeFamily 65 = .ok (.invokestatic 97, 3) := by decide +kernel
theorem dX2_makeFamily_68 : decode cX2_makeFamily 68 = .ok (.istore 6, 2) := by decide +kernel
theorem dX2_makeFamily_70 : decode cX2_makeFamily 70 = .ok (.aload_n 0, 1) := by decide +kernel
theorem dX2_makeFamily_71 : decode cX2_makeFamily 71 = .ok (.getfield 25, 3) := by decide +kernel
theorem dX2_makeFamily_74 : decode cX2_makeFamily 74 = .ok (.iload 6, 2) := by decide +kernel
theorem dX2_makeFamily_76 : decode cX2_makeFamily 76 = .ok (.bipush 6, 2) := by decide +kernel
theorem dX2_makeFamily_78 : decode cX2_makeFamily 78 = .ok (.aload_n 0, 1) := by decide +kernel
theorem dX2_makeFamily_79 : decode cX2_makeFamily 79 = .ok (.getfield 21, 3) := by decide +kernel
theorem dX2_makeFamily_82 : decode cX2_makeFamily 82 = .ok (.iload 6, 2) := by decide +kernel
theorem dX2_makeFamily_84 : decode cX2_makeFamily 84 = .ok (.iaload, 1) := by decide +kernel
theorem dX2_makeFamily_85 : decode cX2_makeFamily 85 = .ok (.imul, 1) := by decide +kernel
theorem dX2_makeFamily_86 : decode cX2_makeFamily 86 = .ok (.iload 4, 2) := by decide +kernel
theorem dX2_makeFamily_88 : decode cX2_makeFamily 88 = .ok (.iconst 2, 1) := by decide +kernel
theorem dX2_makeFamily_89 : decode cX2_makeFamily 89 = .ok (.idiv, 1) := by decide +kernel
theorem dX2_makeFamily_90 : decode cX2_makeFamily 90 = .ok (.iadd, 1) := by decide +kernel
theorem dX2_makeFamily_91 : decode cX2_makeFamily 91 = .ok (.iload 4, 2) := by decide +kernel
theorem dX2_makeFamily_93 : decode cX2_makeFamily 93 = .ok (.idiv, 1) := by decide +kernel
theorem dX2_makeFamily_94 : decode cX2_makeFamily 94 = .ok (.iastore, 1) := by decide +kernel
theorem dX2_makeFamily_95 : decode cX2_makeFamily 95 = .ok (.iinc 5 1, 3) := by decide +kernel
theorem dX2_makeFamily_98 : decode cX2_makeFamily 98 = .ok (.goto (-43), 3) := by decide +kernel
theorem dX2_makeFamily_101 : decode cX2_makeFamily 101 = .ok (.return_, 1) := by decide +kernel
theorem dX2_differs_0 : decode cX2_differs 0 = .ok (.iconst 0, 1) := by decide +kernel
theorem dX2_differs_1 : decode cX2_differs 1 = .ok (.istore_n 1, 1) := by decide +kernel
theorem dX2_differs_2 : decode cX2_differs 2 = .ok (.iload_n 1, 1) := by decide +kernel
theorem dX2_differs_3 : decode cX2_differs 3 = .ok (.bipush 32, 2) := by decide +kernel
theorem dX2_differs_5 : decode cX2_differs 5 = .ok (.if_icmp .ge 29, 3) := by decide +kernel
theorem dX2_differs_8 : decode cX2_differs 8 = .ok (.aload_n 0, 1) := by decide +kernel
theorem dX2_differs_9 : decode cX2_differs 9 = .ok (.getfield 25, 3) := by decide +kernel
theorem dX2_differs_12 : decode cX2_differs 12 = .ok (.iload_n 1, 1) := by decide +kernel
theorem dX2_differs_13 : decode cX2_differs 13 = .ok (.iaload, 1) := by decide +kernel
theorem dX2_differs_14 : decode cX2_differs 14 = .ok (.aload_n 0, 1) := by decide +kernel
theorem dX2_differs_15 : decode cX2_differs 15 = .ok (.getfield 9, 3) := by decide +kernel
theorem dX2_differs_18 : decode cX2_differs 18 = .ok (.getfield 51, 3) := by decide +kernel
theorem dX2_differs_21 : decode cX2_differs 21 = .ok (.iload_n 1, 1) := by decide +kernel
theorem dX2_differs_22 : decode cX2_differs 22 = .ok (.iaload, 1) := by decide +kernel
theorem dX2_differs_23 : decode cX2_differs 23 = .ok (.if_icmp .eq 5, 3) := by decide +kernel
theorem dX2_differs_26 : decode cX2_differs 26 = .ok (.iconst 1, 1) := by decide +kernel
theorem dX2_differs_27 : decode cX2_differs 27 = .ok (.ireturn, 1) := by decide +kernel
theorem dX2_differs_28 : decode cX2_differs 28 = .ok (.iinc 1 1, 3) := by decide +kernel
theorem dX2_differs_31 : decode cX2_differs 31 = .ok (.goto (-29), 3) := by decide +kernel
theorem dX2_differs_34 : decode cX2_differs 34 = .ok (.iconst 0, 1) := by decide +kernel
theorem dX2_differs_35 : decode cX2_differs 35 = .ok (.ireturn, 1) := by decide +kernel
theorem dX3_init_0 : decode cX3_init 0 = .ok (.aload_n 0, 1) := by decide +kernel
theorem dX3_init_1 : decode cX3_init 1 = .ok (.invokespecial 5, 3) := by decide +kernel
theorem dX3_init_4 : decode cX3_init 4 = .ok (.aload_n 0, 1) := by decide +kernel
theorem dX3_init_5 : decode cX3_init 5 = .ok (.bipush 32, 2) := by decide +kernel
theorem dX3_init_7 : decode cX3_init 7 = .ok (.newarray .int, 2) := by decide +kernel
theorem dX3_init_9 : decode cX3_init 9 = .ok (.putfield 11, 3) := by decide +kernel
theorem dX3_init_12 : decode cX3_init 12 = .ok (.iconst 0, 1) := by decide +kernel
theorem dX3_init_13 : decode cX3_init 13 = .ok (.istore_n 1, 1) := by decide +kernel
theorem dX3_init_14 : decode cX3_init 14 = .ok (.iload_n 1, 1) := by decide +kernel
theorem dX3_init_15 : decode cX3_init 15 = .ok (.bipush 32, 2) := by decide +kernel
theorem dX3_init_17 : decode cX3_init 17 = .ok (.if_icmp .ge 16, 3) := by decide +kernel
theorem dX3_init_20 : decode cX3_init 20 = .ok (.aload_n 0, 1) := by decide +kernel
theorem dX3_init_21 : decode cX3_init 21 = .ok (.getfield 11, 3) := by decide +kernel
theorem dX3_init_24 : decode cX3_init 24 = .ok (.iload_n 1, 1) := by decide +kernel
theorem dX3_init_25 : decode cX3_init 25 = .ok (.iconst 1, 1) := by decide +kernel
theorem dX3_init_26 : decode cX3_init 26 = .ok (.iastore, 1) := by decide +kernel
theorem dX3_init_27 : decode cX3_init 27 = .ok (.iinc 1 1, 3) := by decide +kernel
theorem dX3_init_30 : decode cX3_init 30 = .ok (.goto (-16), 3) := by decide +kernel
theorem dX3_init_33 : decode cX3_init 33 = .ok (.aload_n 0, 1) := by decide +kernel
theorem dX3_init_34 : decode cX3_init 34 = .ok (.iconst 2, 1) := by decide +kernel
theorem dX3_init_35 : decode cX3_init 35 = .ok (.putfield 15, 3) := by decide +kernel
theorem dX3_init_38 : decode cX3_init 38 = .ok (.aload_n 0, 1) := by decide +kernel
theorem dX3_init_39 : decode cX3_init 39 = .ok (.sipush 800, 3) := by decide +kernel
theorem dX3_init_42 : decode cX3_init 42 = .ok (.putfield 19, 3) := by decide +kernel
theorem dX3_init_45 : decode cX3_init 45 = .ok (.aload_n 0, 1) := by decide +kernel
theorem dX3_init_46 : decode cX3_init 46 = .ok (.bipush 6, 2) := by decide +kernel
theorem dX3_init_48 : decode cX3_init 48 = .ok (.newarray .int, 2) := by decide +kernel
theorem dX3_init_50 : decode cX3_init 50 = .ok (.putfield 22, 3) := by decide +kernel
theorem dX3_init_53 : decode cX3_init 53 = .ok (.aload_n 0, 1) := by decide +kernel
theorem dX3_init_54 : decode cX3_init 54 = .ok (.bipush 42, 2) := by decide +kernel
theorem dX3_init_56 : decode cX3_init 56 = .ok (.newarray .int, 2) := by decide +kernel
theorem dX3_init_58 : decode cX3_init 58 = .ok (.putfield 25, 3) := by decide +kernel
theorem dX3_init_61 : decode cX3_init 61 = .ok (.return_, 1) := by decide +kernel
theorem dX3_copyFrom_0 : decode cX3_copyFrom 0 = .ok (.aload_n 1, 1) := by decide +kernel
theorem dX3_copyFrom_1 : decode cX3_copyFrom 1 = .ok (.getfield 11, 3) := by decide +kernel
theorem dX3_copyFrom_4 : decode cX3_copyFrom 4 = .ok (.iconst 0, 1) := by decide +kernel
theorem dX3_copyFrom_5 : decode cX3_copyFrom 5 = .ok (.aload_n 0, 1) := by decide +kernel
theorem dX3_copyFrom_6 : decode cX3_copyFrom 6 = .ok (.getfield 11, 3) := by decide +kernel
theorem dX3_copyFrom_9 : decode cX3_copyFrom 9 = .ok (.iconst 0, 1) := by decide +kernel
theorem dX3_copyFrom_10 : decode cX3_copyFrom 10 = .ok (.bipush 32, 2) := by decide +kernel
theorem dX3_copyFrom_12 : decode cX3_copyFrom 12 = .ok (.invokestatic 28, 3) := by decide +kernel
theorem dX3_copyFrom_15 : decode cX3_copyFrom 15 = .ok (.aload_n 0, 1) := by decide +kernel
theorem dX3_copyFrom_16 : decode cX3_copyFrom 16 = .ok (.aload_n 1, 1) := by decide +kernel
theorem dX3_copyFrom_17 : decode cX3_copyFrom 17 = .ok (.getfield 15, 3) := by decide +kernel
theorem dX3_copyFrom_20 : decode cX3_copyFrom 20 = .ok (.putfield 15, 3) := by decide +kernel
theorem dX3_copyFrom_23 : decode cX3_copyFrom 23 = .ok (.aload_n 0, 1) := by decide +kernel
theorem dX3_copyFrom_24 : decode cX3_copyFrom 24 = .ok (.aload_n 1, 1) := by decide +kernel
theorem dX3_copyFrom_25 : decode cX3_copyFrom 25 = .ok (.getfield 19, 3) := by decide +kernel
theorem dX3_copyFrom_28 : decode cX3_copyFrom 28 = .ok (.putfield 19, 3) := by decide +kernel
theorem dX3_copyFrom_31 : decode cX3_copyFrom 31 = .ok (.aload_n 1, 1) := by decide +kernel
theorem dX3_copyFrom_32 : decode cX3_copyFrom 32 = .ok (.getfield 22, 3) := by decide +kernel
theorem dX3_copyFrom_35 : decode cX3_copyFrom 35 = .ok (.iconst 0, 1) := by decide +kernel
theorem dX3_copyFrom_36 : decode cX3_copyFrom 36 = .ok (.aload_n 0, 1) := by decide +kernel
theorem dX3_copyFrom_37 : decode cX3_copyFrom 37 = .ok (.getfield 22, 3) := by decide +kernel
theorem dX3_copyFrom_40 : decode cX3_copyFrom 40 = .ok (.iconst 0, 1) := by decide +kernel
theorem dX3_copyFrom_41 : decode cX3_copyFrom 41 = .ok (.bipush 6, 2) := by decide +kernel
theorem dX3_copyFrom_43 : decode cX3_copyFrom 43 = .ok (.invokestatic 28, 3) := by decide +kernel
theorem dX3_copyFrom_46 : decode cX3_copyFrom 46 = .ok (.aload_n 1, 1) := by decide +kernel
theorem dX3_copyFrom_47 : decode cX3_copyFrom 47 = .ok (.getfield 25, 3) := by decide +kernel
theorem dX3_copyFrom_50 : decode cX3_copyFrom 50 = .ok (.iconst 0, 1) := by decide +kernel
theorem dX3_copyFrom_51 : decode cX3_copyFrom 51 = .ok (.aload_n 0, 1) := by decide +kernel
theorem dX3_copyFrom_52 : decode cX3_copyFrom 52 = .ok (.getfield 25, 3) := by decide +kernel
theorem dX3_copyFrom_55 : decode cX3_copyFrom 55 = .ok (.iconst 0, 1) := by decide +kernel
theorem dX3_copyFrom_56 : decode cX3_copyFrom 56 = .ok (.bipush 42, 2) := by decide +kernel
theorem dX3_copyFrom_58 : decode cX3_copyFrom 58 = .ok (.invokestatic 28, 3) := by decide +kernel
theorem dX3_copyFrom_61 : decode cX3_copyFrom 61 = .ok (.aload_n 0, 1) := by decide +kernel
theorem dX3_copyFrom_62 : decode cX3_copyFrom 62 = .ok (.aload_n 1, 1) := by decide +kernel
theorem dX3_copyFrom_63 : decode cX3_copyFrom 63 = .ok (.getfield 34, 3) := by decide +kernel
theorem dX3_copyFrom_66 : decode cX3_copyFrom 66 = .ok (.putfield 34, 3) := by decide +kernel
theorem dX3_copyFrom_69 : decode cX3_copyFrom 69 = .ok (.return_, 1) := by decide +kernel
theorem dX3_hasState_0 : decode cX3_hasState 0 = .ok (.iload_n 1, 1) := by decide +kernel
theorem dX3_hasState_1 : decode cX3_hasState 1 = .ok (.ifCond .lt 15, 3) := by decide +kernel
theorem dX3_hasState_4 : decode cX3_hasState 4 = .ok (.iload_n 1, 1) := by decide +kernel
theorem dX3_hasState_5 : decode cX3_hasState 5 = .ok (.aload_n 0, 1) := by decide +kernel
theorem dX3_hasState_6 : decode cX3_hasState 6 = .ok (.getfield 15, 3) := by decide +kernel
theorem dX3_hasState_9 : decode cX3_hasState 9 = .ok (.if_icmp .ge 7, 3) := by decide +kernel
theorem dX3_hasState_12 : decode cX3_hasState 12 = .ok (.iconst 1, 1) := by decide +kernel
theorem dX3_hasState_13 : decode cX3_hasState 13 = .ok (.goto 4, 3) := by decide +kernel
theorem dX3_hasState_16 : decode cX3_hasState 16 = .ok (.iconst 0, 1) := by decide +kernel
theorem dX3_hasState_17 : decode cX3_hasState 17 = .ok (.ireturn, 1) := by decide +kernel
theorem dX3_hasSample_0 : decode cX3_hasSample 0 = .ok (.iload_n 1, 1) := by decide +kernel
theorem dX3_hasSample_1 : decode cX3_hasSample 1 = .ok (.ifCond .lt 15, 3) := by decide +kernel
theorem dX3_hasSample_4 : decode cX3_hasSample 4 = .ok (.iload_n 1, 1) := by decide +kernel
theorem dX3_hasSample_5 : decode cX3_hasSample 5 = .ok (.aload_n 0, 1) := by decide +kernel
theorem dX3_hasSample_6 : decode cX3_hasSample 6 = .ok (.getfield 34, 3) := by decide +kernel
theorem dX3_hasSample_9 : decode cX3_hasSample 9 = .ok (.if_icmp .ge 7, 3) := by decide +kernel
theorem dX3_hasSample_12 : decode cX3_hasSample 12 = .ok (.iconst 1, 1) := by decide +kernel
theorem dX3_hasSample_13 : decode cX3_hasSample 13 = .ok (.goto 4, 3) := by decide +kernel
theorem dX3_hasSample_16 : decode cX3_hasSample 16 = .ok (.iconst 0, 1) := by decide +kernel
theorem dX3_hasSample_17 : decode cX3_hasSample 17 = .ok (.ireturn, 1) := by decide +kernel
theorem dX3_hasPlace_0 : decode cX3_hasPlace 0 = .ok (.aload_n 0, 1) := by decide +kernel
theorem dX3_hasPlace_1 : decode cX3_hasPlace 1 = .ok (.iload_n 1, 1) := by decide +kernel
theorem dX3_hasPlace_2 : decode cX3_hasPlace 2 = .ok (.invokevirtual 37, 3) := by decide +kernel
theorem dX3_hasPlace_5 : decode cX3_hasPlace 5 = .ok (.ifCond .eq 21, 3) := by decide +kernel
theorem dX3_hasPlace_8 : decode cX3_hasPlace 8 = .ok (.iload_n 2, 1) := by decide +kernel
theorem dX3_hasPlace_9 : decode cX3_hasPlace 9 = .ok (.ifCond .lt 17, 3) := by decide +kernel
theorem dX3_hasPlace_12 : decode cX3_hasPlace 12 = .ok (.iload_n 2, 1) := by decide +kernel
theorem dX3_hasPlace_13 : decode cX3_hasPlace 13 = .ok (.aload_n 0, 1) := by decide +kernel
theorem dX3_hasPlace_14 : decode cX3_hasPlace 14 = .ok (.getfield 22, 3) := by decide +kernel
theorem dX3_hasPlace_17 : decode cX3_hasPlace 17 = .ok (.iload_n 1, 1) := by decide +kernel
theorem dX3_hasPlace_18 : decode cX3_hasPlace 18 = .ok (.iaload, 1) := by decide +kernel
theorem dX3_hasPlace_19 : decode cX3_hasPlace 19 = .ok (.if_icmp .ge 7, 3) := by decide +kernel
theorem dX3_hasPlace_22 : decode cX3_hasPlace 22 = .ok (.iconst 1, 1) := by decide +kernel
theorem dX3_hasPlace_23 : decode cX3_hasPlace 23 = .ok (.goto 4, 3) := by decide +kernel
theorem dX3_hasPlace_26 : decode cX3_hasPlace 26 = .ok (.iconst 0, 1) := by decide +kernel
theorem dX3_hasPlace_27 : decode cX3_hasPlace 27 = .ok (.ireturn, 1) := by decide +kernel
theorem dX3_hasWeight_0 : decode cX3_hasWeight 0 = .ok (.iload_n 1, 1) := by decide +kernel
theorem dX3_hasWeight_1 : decode cX3_hasWeight 1 = .ok (.ifCond .ne 7, 3) := by decide +kernel
theorem dX3_hasWeight_4 : decode cX3_hasWeight 4 = .ok (.iconst 1, 1) := by decide +kernel
theorem dX3_hasWeight_5 : decode cX3_hasWeight 5 = .ok (.goto 8, 3) := by decide +kernel
theorem dX3_hasWeight_8 : decode cX3_hasWeight 8 = .ok (.aload_n 0, 1) := by decide +kernel
theorem dX3_hasWeight_9 : decode cX3_hasWeight 9 = .ok (.iload_n 1, 1) := by decide +kernel
theorem dX3_hasWeight_10 : decode cX3_hasWeight 10 = .ok (.invokevirtual 41, 3) := by decide +kernel
theorem dX3_hasWeight_13 : decode cX3_hasWeight 13 = .ok (.istore 4, 2) := by decide +kernel
theorem dX3_hasWeight_15 : decode cX3_hasWeight 15 = .ok (.aload_n 0, 1) := by decide +kernel
theorem dX3_hasWeight_16 : decode cX3_hasWeight 16 = .ok (.iload_n 2, 1) := by decide +kernel
theorem dX3_hasWeight_17 : decode cX3_hasWeight 17 = .ok (.invokevirtual 45, 3) := by decide +kernel
theorem dX3_hasWeight_20 : decode cX3_hasWeight 20 = .ok (.ifCond .eq 17, 3) := by decide +kernel
theorem dX3_hasWeight_23 : decode cX3_hasWeight 23 = .ok (.iload_n 3, 1) := by decide +kernel
theorem dX3_hasWeight_24 : decode cX3_hasWeight 24 = .ok (.ifCond .lt 13, 3) := by decide +kernel
theorem dX3_hasWeight_27 : decode cX3_hasWeight 27 = .ok (.iload_n 3, 1) := by decide +kernel
theorem dX3_hasWeight_28 : decode cX3_hasWeight 28 = .ok (.iload 4, 2) := by decide +kernel
theorem dX3_hasWeight_30 : decode cX3_hasWeight 30 = .ok (.if_icmp .ge 7, 3) := by decide +kernel
theorem dX3_hasWeight_33 : decode cX3_hasWeight 33 = .ok (.iconst 1, 1) := by decide +kernel
theorem dX3_hasWeight_34 : decode cX3_hasWeight 34 = .ok (.goto 4, 3) := by decide +kernel
theorem dX3_hasWeight_37 : decode cX3_hasWeight 37 = .ok (.iconst 0, 1) := by decide +kernel
theorem dX3_hasWeight_38 : decode cX3_hasWeight 38 = .ok (.ireturn, 1) := by decide +kernel
theorem dX3_cellOf_0 : decode cX3_cellOf 0 = .ok (.iload_n 0, 1) := by decide +kernel
theorem dX3_cellOf_1 : decode cX3_cellOf 1 = .ok (.ifCond .ne 7, 3) := by decide +kernel
theorem dX3_cellOf_4 : decode cX3_cellOf 4 = .ok (.iconst 0, 1) := by decide +kernel
theorem dX3_cellOf_5 : decode cX3_cellOf 5 = .ok (.goto 13, 3) := by decide +kernel
theorem dX3_cellOf_8 : decode cX3_cellOf 8 = .ok (.iload_n 0, 1) := by decide +kernel
theorem dX3_cellOf_9 : decode cX3_cellOf 9 = .ok (.iconst 1, 1) := by decide +kernel
theorem dX3_cellOf_10 : decode cX3_cellOf 10 = .ok (.if_icmp .ne 7, 3) := by decide +kernel
theorem dX3_cellOf_13 : decode cX3_cellOf 13 = .ok (.iconst 1, 1) := by decide +kernel
theorem dX3_cellOf_14 : decode cX3_cellOf 14 = .ok (.goto 4, 3) := by decide +kernel
theorem dX3_cellOf_17 : decode cX3_cellOf 17 = .ok (.iconst 5, 1) := by decide +kernel
theorem dX3_cellOf_18 : decode cX3_cellOf 18 = .ok (.istore_n 3, 1) := by decide +kernel
theorem dX3_cellOf_19 : decode cX3_cellOf 19 = .ok (.iload_n 1, 1) := by decide +kernel
theorem dX3_cellOf_20 : decode cX3_cellOf 20 = .ok (.bipush 8, 2) := by decide +kernel
theorem dX3_cellOf_22 : decode cX3_cellOf 22 = .ok (.imul, 1) := by decide +kernel
theorem dX3_cellOf_23 : decode cX3_cellOf 23 = .ok (.iload_n 3, 1) := by decide +kernel
theorem dX3_cellOf_24 : decode cX3_cellOf 24 = .ok (.iadd, 1) := by decide +kernel
theorem dX3_cellOf_25 : decode cX3_cellOf 25 = .ok (.iload_n 2, 1) := by decide +kernel
theorem dX3_cellOf_26 : decode cX3_cellOf 26 = .ok (.iadd, 1) := by decide +kernel
theorem dX3_cellOf_27 : decode cX3_cellOf 27 = .ok (.ireturn, 1) := by decide +kernel
theorem dX3_familySize_0 : decode cX3_familySize 0 = .ok (.iload_n 1, 1) := by decide +kernel
theorem dX3_familySize_1 : decode cX3_familySize 1 = .ok (.iconst 2, 1) := by decide +kernel
theorem dX3_familySize_2 : decode cX3_familySize 2 = .ok (.if_icmp .ne 7, 3) := by decide +kernel
theorem dX3_familySize_5 : decode cX3_familySize 5 = .ok (.iconst 3, 1) := by decide +kernel
theorem dX3_familySize_6 : decode cX3_familySize 6 = .ok (.goto 7, 3) := by decide +kernel
theorem dX3_familySize_9 : decode cX3_familySize 9 = .ok (.aload_n 0, 1) := by decide +kernel
theorem dX3_familySize_10 : decode cX3_familySize 10 = .ok (.getfield 15, 3) := by decide +kernel
theorem dX3_familySize_13 : decode cX3_familySize 13 = .ok (.ireturn, 1) := by decide +kernel
theorem dX3_memberCell_0 : decode cX3_memberCell 0 = .ok (.iload_n 0, 1) := by decide +kernel
theorem dX3_memberCell_1 : decode cX3_memberCell 1 = .ok (.ifCond .ne 12, 3) := by decide +kernel
theorem dX3_memberCell_4 : decode cX3_memberCell 4 = .ok (.iload_n 0, 1) := by decide +kernel
theorem dX3_memberCell_5 : decode cX3_memberCell 5 = .ok (.iload_n 2, 1) := by decide +kernel
theorem dX3_memberCell_6 : decode cX3_memberCell 6 = .ok (.iconst 0, 1) := by decide +kernel
theorem dX3_memberCell_7 : decode cX3_memberCell 7 = .ok (.invokestatic 48, 3) := by decide +kernel
theorem dX3_memberCell_10 : decode cX3_memberCell 10 = .ok (.goto 9, 3) := by decide +kernel
theorem dX3_memberCell_13 : decode cX3_memberCell 13 = .ok (.iload_n 0, 1) := by decide +kernel
theorem dX3_memberCell_14 : decode cX3_memberCell 14 = .ok (.iload_n 1, 1) := by decide +kernel
theorem dX3_memberCell_15 : decode cX3_memberCell 15 = .ok (.iload_n 2, 1) := by decide +kernel
theorem dX3_memberCell_16 : decode cX3_memberCell 16 = .ok (.invokestatic 48, 3) := by decide +kernel
theorem dX3_memberCell_19 : decode cX3_memberCell 19 = .ok (.ireturn, 1) := by decide +kernel
theorem dX3_begin_0 : decode cX3_begin 0 = .ok (.aload_n 0, 1) := by decide +kernel
theorem dX3_begin_1 : decode cX3_begin 1 = .ok (.getfield 11, 3) := by decide +kernel
theorem dX3_begin_4 : decode cX3_begin 4 = .ok (.iload_n 1, 1) := by decide +kernel
theorem dX3_begin_5 : decode cX3_begin 5 = .ok (.bipush 8, 2) := by decide +kernel
theorem dX3_begin_7 : decode cX3_begin 7 = .ok (.imul, 1) := by decide +kernel
theorem dX3_begin_8 : decode cX3_begin 8 = .ok (.iaload, 1) := by decide +kernel
theorem dX3_begin_9 : decode cX3_begin 9 = .ok (.ireturn, 1) := by decide +kernel
theorem dX3_go_0 : decode cX3_go 0 = .ok (.aload_n 0, 1) := by decide +kernel
theorem dX3_go_1 : decode cX3_go 1 = .ok (.getfield 11, 3) := by decide +kernel
theorem dX3_go_4 : decode cX3_go 4 = .ok (.iload_n 1, 1) := by decide +kernel
theorem dX3_go_5 : decode cX3_go 5 = .ok (.bipush 8, 2) := by decide +kernel
theorem dX3_go_7 : decode cX3_go 7 = .ok (.imul, 1) := by decide +kernel
theorem dX3_go_8 : decode cX3_go 8 = .ok (.iconst 1, 1) := by decide +kernel
theorem dX3_go_9 : decode cX3_go 9 = .ok (.iadd, 1) := by decide +kernel
theorem dX3_go_10 : decode cX3_go 10 = .ok (.iload_n 2, 1) := by decide +kernel
theorem dX3_go_11 : decode cX3_go 11 = .ok (.iadd, 1) := by decide +kernel
theorem dX3_go_12 : decode cX3_go 12 = .ok (.iaload, 1) := by decide +kernel
theorem dX3_go_13 : decode cX3_go 13 = .ok (.ireturn, 1) := by decide +kernel
theorem dX3_show_0 : decode cX3_show 0 = .ok (.aload_n 0, 1) := by decide +kernel
theorem dX3_show_1 : decode cX3_show 1 = .ok (.getfield 11, 3) := by decide +kernel
theorem dX3_show_4 : decode cX3_show 4 = .ok (.iload_n 1, 1) := by decide +kernel
theorem dX3_show_5 : decode cX3_show 5 = .ok (.bipush 8, 2) := by decide +kernel
theorem dX3_show_7 : decode cX3_show 7 = .ok (.imul, 1) := by decide +kernel
theorem dX3_show_8 : decode cX3_show 8 = .ok (.iconst 5, 1) := by decide +kernel
theorem dX3_show_9 : decode cX3_show 9 = .ok (.iadd, 1) := by decide +kernel
theorem dX3_show_10 : decode cX3_show 10 = .ok (.iload_n 2, 1) := by decide +kernel
theorem dX3_show_11 : decode cX3_show 11 = .ok (.iadd, 1) := by decide +kernel
theorem dX3_show_12 : decode cX3_show 12 = .ok (.iaload, 1) := by decide +kernel
theorem dX3_show_13 : decode cX3_show 13 = .ok (.ireturn, 1) := by decide +kernel
theorem dX3_signAt_0 : decode cX3_signAt 0 = .ok (.aload_n 0, 1) := by decide +kernel
theorem dX3_signAt_1 : decode cX3_signAt 1 = .ok (.getfield 25, 3) := by decide +kernel
theorem dX3_signAt_4 : decode cX3_signAt 4 = .ok (.iload_n 1, 1) := by decide +kernel
theorem dX3_signAt_5 : decode cX3_signAt 5 = .ok (.bipush 7, 2) := by decide +kernel
theorem dX3_signAt_7 : decode cX3_signAt 7 = .ok (.imul, 1) := by decide +kernel
theorem dX3_signAt_8 : decode cX3_signAt 8 = .ok (.iload_n 2, 1) := by decide +kernel
theorem dX3_signAt_9 : decode cX3_signAt 9 = .ok (.iadd, 1) := by decide +kernel
theorem dX3_signAt_10 : decode cX3_signAt 10 = .ok (.iaload, 1) := by decide +kernel
theorem dX3_signAt_11 : decode cX3_signAt 11 = .ok (.ireturn, 1) := by decide +kernel
theorem dX3_showAt_0 : decode cX3_showAt 0 = .ok (.aload_n 0, 1) := by decide +kernel
theorem dX3_showAt_1 : decode cX3_showAt 1 = .ok (.iload_n 1, 1) := by decide +kernel
theorem dX3_showAt_2 : decode cX3_showAt 2 = .ok (.aload_n 0, 1) := by decide +kernel
theorem dX3_showAt_3 : decode cX3_showAt 3 = .ok (.iload_n 2, 1) := by decide +kernel
theorem dX3_showAt_4 : decode cX3_showAt 4 = .ok (.iload_n 3, 1) := by decide +kernel
theorem dX3_showAt_5 : decode cX3_showAt 5 = .ok (.invokevirtual 52, 3) := by decide +kernel
theorem dX3_showAt_8 : decode cX3_showAt 8 = .ok (.invokevirtual 56, 3) := by decide +kernel
theorem dX3_showAt_11 : decode cX3_showAt 11 = .ok (.ireturn, 1) := by decide +kernel
theorem dX3_allSigns_0 : decode cX3_allSigns 0 = .ok (.iconst 0, 1) := by decide +kernel
theorem dX3_allSigns_1 : decode cX3_allSigns 1 = .ok (.istore_n 1, 1) := by decide +kernel
theorem dX3_allSigns_2 : decode cX3_allSigns 2 = .ok (.iconst 0, 1) := by decide +kernel
theorem dX3_allSigns_3 : decode cX3_allSigns 3 = .ok (.istore_n 2, 1) := by decide +kernel
theorem dX3_allSigns_4 : decode cX3_allSigns 4 = .ok (.iload_n 2, 1) := by decide +kernel
theorem dX3_allSigns_5 : decode cX3_allSigns 5 = .ok (.aload_n 0, 1) := by decide +kernel
theorem dX3_allSigns_6 : decode cX3_allSigns 6 = .ok (.getfield 34, 3) := by decide +kernel
theorem dX3_allSigns_9 : decode cX3_allSigns 9 = .ok (.if_icmp .ge 18, 3) := by decide +kernel
theorem dX3_allSigns_12 : decode cX3_allSigns 12 = .ok (.iload_n 1, 1) := by decide +kernel
theorem dX3_allSigns_13 : decode cX3_allSigns 13 = .ok (.aload_n 0, 1) := by decide +kernel
theorem dX3_allSigns_14 : decode cX3_allSigns 14 = .ok (.getfield 22, 3) := by decide +kernel
theorem dX3_allSigns_17 : decode cX3_allSigns 17 = .ok (.iload_n 2, 1) := by decide +kernel
theorem dX3_allSigns_18 : decode cX3_allSigns 18 = .ok (.iaload, 1) := by decide +kernel
theorem dX3_allSigns_19 : decode cX3_allSigns 19 = .ok (.iadd, 1) := by decide +kernel
theorem dX3_allSigns_20 : decode cX3_allSigns 20 = .ok (.istore_n 1, 1) := by decide +kernel
theorem dX3_allSigns_21 : decode cX3_allSigns 21 = .ok (.iinc 2 1, 3) := by decide +kernel
theorem dX3_allSigns_24 : decode cX3_allSigns 24 = .ok (.goto (-20), 3) := by decide +kernel
theorem dX3_allSigns_27 : decode cX3_allSigns 27 = .ok (.iload_n 1, 1) := by decide +kernel
theorem dX3_allSigns_28 : decode cX3_allSigns 28 = .ok (.ireturn, 1) := by decide +kernel
theorem dX3_oddsOf_0 : decode cX3_oddsOf 0 = .ok (.aload_n 0, 1) := by decide +kernel
theorem dX3_oddsOf_1 : decode cX3_oddsOf 1 = .ok (.iload_n 1, 1) := by decide +kernel
theorem dX3_oddsOf_2 : decode cX3_oddsOf 2 = .ok (.invokevirtual 41, 3) := by decide +kernel
theorem dX3_oddsOf_5 : decode cX3_oddsOf 5 = .ok (.istore 4, 2) := by decide +kernel
theorem dX3_oddsOf_7 : decode cX3_oddsOf 7 = .ok (.iconst 0, 1) := by decide +kernel
theorem dX3_oddsOf_8 : decode cX3_oddsOf 8 = .ok (.istore 5, 2) := by decide +kernel
theorem dX3_oddsOf_10 : decode cX3_oddsOf 10 = .ok (.iconst 0, 1) := by decide +kernel
theorem dX3_oddsOf_11 : decode cX3_oddsOf 11 = .ok (.istore 6, 2) := by decide +kernel
theorem dX3_oddsOf_13 : decode cX3_oddsOf 13 = .ok (.iload 6, 2) := by decide +kernel
theorem dX3_oddsOf_15 : decode cX3_oddsOf 15 = .ok (.iload 4, 2) := by decide +kernel
theorem dX3_oddsOf_17 : decode cX3_oddsOf 17 = .ok (.if_icmp .ge 26, 3) := by decide +kernel
theorem dX3_oddsOf_20 : decode cX3_oddsOf 20 = .ok (.iload 5, 2) := by decide +kernel
theorem dX3_oddsOf_22 : decode cX3_oddsOf 22 = .ok (.aload_n 0, 1) := by decide +kernel
theorem dX3_oddsOf_23 : decode cX3_oddsOf 23 = .ok (.getfield 11, 3) := by decide +kernel
theorem dX3_oddsOf_26 : decode cX3_oddsOf 26 = .ok (.iload_n 1, 1) := by decide +kernel
theorem dX3_oddsOf_27 : decode cX3_oddsOf 27 = .ok (.iload_n 2, 1) := by decide +kernel
theorem dX3_oddsOf_28 : decode cX3_oddsOf 28 = .ok (.iload 6, 2) := by decide +kernel
theorem dX3_oddsOf_30 : decode cX3_oddsOf 30 = .ok (.invokestatic 59, 3) := by decide +kernel
theorem dX3_oddsOf_33 : decode cX3_oddsOf 33 = .ok (.iaload, 1) := by decide +kernel
theorem dX3_oddsOf_34 : decode cX3_oddsOf 34 = .ok (.iadd, 1) := by decide +kernel
theorem dX3_oddsOf_35 : decode cX3_oddsOf 35 = .ok (.istore 5, 2) := by decide +kernel
theorem dX3_oddsOf_37 : decode cX3_oddsOf 37 = .ok (.iinc 6 1, 3) := by decide +kernel
theorem dX3_oddsOf_40 : decode cX3_oddsOf 40 = .ok (.goto (-27), 3) := by decide +kernel
theorem dX3_oddsOf_43 : decode cX3_oddsOf 43 = .ok (.iload 5, 2) := by decide +kernel
theorem dX3_oddsOf_45 : decode cX3_oddsOf 45 = .ok (.ifCond .gt 5, 3) := by decide +kernel
theorem dX3_oddsOf_48 : decode cX3_oddsOf 48 = .ok (.iconst 0, 1) := by decide +kernel
theorem dX3_oddsOf_49 : decode cX3_oddsOf 49 = .ok (.ireturn, 1) := by decide +kernel
theorem dX3_oddsOf_50 : decode cX3_oddsOf 50 = .ok (.iload_n 1, 1) := by decide +kernel
theorem dX3_oddsOf_51 : decode cX3_oddsOf 51 = .ok (.ifCond .ne 7, 3) := by decide +kernel
theorem dX3_oddsOf_54 : decode cX3_oddsOf 54 = .ok (.iload_n 2, 1) := by decide +kernel
theorem dX3_oddsOf_55 : decode cX3_oddsOf 55 = .ok (.goto 4, 3) := by decide +kernel
theorem dX3_oddsOf_58 : decode cX3_oddsOf 58 = .ok (.iload_n 3, 1) := by decide +kernel
theorem dX3_oddsOf_59 : decode cX3_oddsOf 59 = .ok (.istore 6, 2) := by decide +kernel
theorem dX3_oddsOf_61 : decode cX3_oddsOf 61 = .ok (.sipush 1000, 3) := by decide +kernel
theorem dX3_oddsOf_64 : decode cX3_oddsOf 64 = .ok (.aload_n 0, 1) := by decide +kernel
theorem dX3_oddsOf_65 : decode cX3_oddsOf 65 = .ok (.getfield 11, 3) := by decide +kernel
theorem dX3_oddsOf_68 : decode cX3_oddsOf 68 = .ok (.iload_n 1, 1) := by decide +kernel
theorem dX3_oddsOf_69 : decode cX3_oddsOf 69 = .ok (.iload_n 2, 1) := by decide +kernel
theorem dX3_oddsOf_70 : decode cX3_oddsOf 70 = .ok (.iload 6, 2) := by decide +kernel
theorem dX3_oddsOf_72 : decode cX3_oddsOf 72 = .ok (.invokestatic 59, 3) := by decide +kernel
theorem dX3_oddsOf_75 : decode cX3_oddsOf 75 = .ok (.iaload, 1) := by decide +kernel
theorem dX3_oddsOf_76 : decode cX3_oddsOf 76 = .ok (.imul, 1) := by decide +kernel
theorem dX3_oddsOf_77 : decode cX3_oddsOf 77 = .ok (.istore 7, 2) := by decide +kernel
theorem dX3_oddsOf_79 : decode cX3_oddsOf 79 = .ok (.sipush 1000, 3) := by decide +kernel
theorem dX3_oddsOf_82 : decode cX3_oddsOf 82 = .ok (.istore 8, 2) := by decide +kernel
theorem dX3_oddsOf_84 : decode cX3_oddsOf 84 = .ok (.iconst 0, 1) := by decide +kernel
theorem dX3_oddsOf_85 : decode cX3_oddsOf 85 = .ok (.istore 9, 2) := by decide +kernel
theorem dX3_oddsOf_87 : decode cX3_oddsOf 87 = .ok (.iconst 0, 1) := by decide +kernel
theorem dX3_oddsOf_88 : decode cX3_oddsOf 88 = .ok (.istore 10, 2) := by decide +kernel
theorem dX3_oddsOf_90 : decode cX3_oddsOf 90 = .ok (.iload 10, 2) := by decide +kernel
theorem dX3_oddsOf_92 : decode cX3_oddsOf 92 = .ok (.iload 4, 2) := by decide +kernel
theorem dX3_oddsOf_94 : decode cX3_oddsOf 94 = .ok (.if_icmp .ge 73, 3) := by decide +kernel
theorem dX3_oddsOf_97 : decode cX3_oddsOf 97 = .ok (.sipush 1000, 3) := by decide +kernel
theorem dX3_oddsOf_100 : decode cX3_oddsOf 100 = .ok (.aload_n 0, 1) := by decide +kernel
theorem dX3_oddsOf_101 : decode cX3_oddsOf 101 = .ok (.getfield 11, 3) := by decide +kernel
theorem dX3_oddsOf_104 : decode cX3_oddsOf 104 = .ok (.iload_n 1, 1) := by decide +kernel
theorem dX3_oddsOf_105 : decode cX3_oddsOf 105 = .ok (.iload_n 2, 1) := by decide +kernel
theorem dX3_oddsOf_106 : decode cX3_oddsOf 106 = .ok (.iload 10, 2) := by decide +kernel
theorem dX3_oddsOf_108 : decode cX3_oddsOf 108 = .ok (.invokestatic 59, 3) := by decide +kernel
theorem dX3_oddsOf_111 : decode cX3_oddsOf 111 = .ok (.iaload, 1) := by decide +kernel
theorem dX3_oddsOf_112 : decode cX3_oddsOf 112 = .ok (.imul, 1) := by decide +kernel
theorem dX3_oddsOf_113 : decode cX3_oddsOf 113 = .ok (.istore 11, 2) := by decide +kernel
theorem dX3_oddsOf_115 : decode cX3_oddsOf 115 = .ok (.iload 8, 2) := by decide +kernel
theorem dX3_oddsOf_117 : decode cX3_oddsOf 117 = .ok (.iload 11, 2) := by decide +kernel
theorem dX3_oddsOf_119 : decode cX3_oddsOf 119 = .ok (.iload 5, 2) := by decide +kernel
theorem dX3_oddsOf_121 : decode cX3_oddsOf 121 = .ok (.idiv, 1) := by decide +kernel
theorem dX3_oddsOf_122 : decode cX3_oddsOf 122 = .ok (.isub, 1) := by decide +kernel
theorem dX3_oddsOf_123 : decode cX3_oddsOf 123 = .ok (.istore 8, 2) := by decide +kernel
theorem dX3_oddsOf_125 : decode cX3_oddsOf 125 = .ok (.iload 11, 2) := by decide +kernel
theorem dX3_oddsOf_127 : decode cX3_oddsOf 127 = .ok (.iload 5, 2) := by decide +kernel
theorem dX3_oddsOf_129 : decode cX3_oddsOf 129 = .ok (.irem, 1) := by decide +kernel
theorem dX3_oddsOf_130 : decode cX3_oddsOf 130 = .ok (.iload 7, 2) := by decide +kernel
theorem dX3_oddsOf_132 : decode cX3_oddsOf 132 = .ok (.iload 5, 2) := by decide +kernel
theorem dX3_oddsOf_134 : decode cX3_oddsOf 134 = .ok (.irem, 1) := by decide +kernel
theorem dX3_oddsOf_135 : decode cX3_oddsOf 135 = .ok (.if_icmp .gt 23, 3) := by decide +kernel
theorem dX3_oddsOf_138 : decode cX3_oddsOf 138 = .ok (.iload 11, 2) := by decide +kernel
theorem dX3_oddsOf_140 : decode cX3_oddsOf 140 = .ok (.iload 5, 2) := by decide +kernel
theorem dX3_oddsOf_142 : decode cX3_oddsOf 142 = .ok (.irem, 1) := by decide +kernel
theorem dX3_oddsOf_143 : decode cX3_oddsOf 143 = .ok (.iload 7, 2) := by decide +kernel
theorem dX3_oddsOf_145 : decode cX3_oddsOf 145 = .ok (.iload 5, 2) := by decide +kernel
theorem dX3_oddsOf_147 : decode cX3_oddsOf 147 = .ok (.irem, 1) := by decide +kernel
theorem dX3_oddsOf_148 : decode cX3_oddsOf 148 = .ok (.if_icmp .ne 13, 3) := by decide +kernel
theorem dX3_oddsOf_151 : decode cX3_oddsOf 151 = .ok (.iload 10, 2) := by decide +kernel
theorem dX3_oddsOf_153 : decode cX3_oddsOf 153 = .ok (.iload 6, 2) := by decide +kernel
theorem dX3_oddsOf_155 : decode cX3_oddsOf 155 = .ok (.if_icmp .ge 6, 3) := by decide +kernel
theorem dX3_oddsOf_158 : decode cX3_oddsOf 158 = .ok (.iinc 9 1, 3) := by decide +kernel
theorem dX3_oddsOf_161 : decode cX3_oddsOf 161 = .ok (.iinc 10 1, 3) := by decide +kernel
theorem dX3_oddsOf_164 : decode cX3_oddsOf 164 = .ok (.goto (-74), 3) := by decide +kernel
theorem dX3_oddsOf_167 : decode cX3_oddsOf 167 = .ok (.iload 7, 2) := by decide +kernel
theorem dX3_oddsOf_169 : decode cX3_oddsOf 169 = .ok (.iload 5, 2) := by decide +kernel
theorem dX3_oddsOf_171 : decode cX3_oddsOf 171 = .ok (.idiv, 1) := by decide +kernel
theorem dX3_oddsOf_172 : decode cX3_oddsOf 172 = .ok (.iload 9, 2) := by decide +kernel
theorem dX3_oddsOf_174 : decode cX3_oddsOf 174 = .ok (.iload 8, 2) := by decide +kernel
theorem dX3_oddsOf_176 : decode cX3_oddsOf 176 = .ok (.if_icmp .ge 7, 3) := by decide +kernel
theorem dX3_oddsOf_179 : decode cX3_oddsOf 179 = .ok (.iconst 1, 1) := by decide +kernel
theorem dX3_oddsOf_180 : decode cX3_oddsOf 180 = .ok (.goto 4, 3) := by decide +kernel
theorem dX3_oddsOf_183 : decode cX3_oddsOf 183 = .ok (.iconst 0, 1) := by decide +kernel
theorem dX3_oddsOf_184 : decode cX3_oddsOf 184 = .ok (.iadd, 1) := by decide +kernel
theorem dX3_oddsOf_185 : decode cX3_oddsOf 185 = .ok (.ireturn, 1) := by decide +kernel
theorem dX3_appendState_0 : decode cX3_appendState 0 = .ok (.aload_n 0, 1) := by decide +kernel
theorem dX3_appendState_1 : decode cX3_appendState 1 = .ok (.getfield 15, 3) := by decide +kernel
theorem dX3_appendState_4 : decode cX3_appendState 4 = .ok (.istore_n 1, 1) := by decide +kernel
theorem dX3_appendState_5 : decode cX3_appendState 5 = .ok (.aload_n 0, 1) := by decide +kernel
theorem dX3_appendState_6 : decode cX3_appendState 6 = .ok (.dup, 1) := by decide +kernel
theorem dX3_appendState_7 : decode cX3_appendState 7 = .ok (.getfield 15, 3) := by decide +kernel
theorem dX3_appendState_10 : decode cX3_appendState 10 = .ok (.iconst 1, 1) := by decide +kernel
theorem dX3_appendState_11 : decode cX3_appendState 11 = .ok (.iadd, 1) := by decide +kernel
theorem dX3_appendState_12 : decode cX3_appendState 12 = .ok (.putfield 15, 3) := by decide +kernel
theorem dX3_appendState_15 : decode cX3_appendState 15 = .ok (.iload_n 1, 1) := by decide +kernel
theorem dX3_appendState_16 : decode cX3_appendState 16 = .ok (.bipush 8, 2) := by decide +kernel
theorem dX3_appendState_18 : decode cX3_appendState 18 = .ok (.imul, 1) := by decide +kernel
theorem dX3_appendState_19 : decode cX3_appendState 19 = .ok (.istore_n 2, 1) := by decide +kernel
theorem dX3_appendState_20 : decode cX3_appendState 20 = .ok (.iload_n 2, 1) := by decide +kernel
theorem dX3_appendState_21 : decode cX3_appendState 21 = .ok (.iload_n 1, 1) := by decide +kernel
theorem dX3_appendState_22 : decode cX3_appendState 22 = .ok (.iconst 1, 1) := by decide +kernel
theorem dX3_appendState_23 : decode cX3_appendState 23 = .ok (.iadd, 1) := by decide +kernel
theorem dX3_appendState_24 : decode cX3_appendState 24 = .ok (.bipush 8, 2) := by decide +kernel
theorem dX3_appendState_26 : decode cX3_appendState 26 = .ok (.imul, 1) := by decide +kernel
theorem dX3_appendState_27 : decode cX3_appendState 27 = .ok (.if_icmp .ge 16, 3) := by decide +kernel
theorem dX3_appendState_30 : decode cX3_appendState 30 = .ok (.aload_n 0, 1) := by decide +kernel
theorem dX3_appendState_31 : decode cX3_appendState 31 = .ok (.getfield 11, 3) := by decide +kernel
theorem dX3_appendState_34 : decode cX3_appendState 34 = .ok (.iload_n 2, 1) := by decide +kernel
theorem dX3_appendState_35 : decode cX3_appendState 35 = .ok (.iconst 1, 1) := by decide +kernel
theorem dX3_appendState_36 : decode cX3_appendState 36 = .ok (.iastore, 1) := by decide +kernel
theorem dX3_appendState_37 : decode cX3_appendState 37 = .ok (.iinc 2 1, 3) := by decide +kernel
theorem dX3_appendState_40 : decode cX3_appendState 40 = .ok (.goto (-20), 3) := by decide +kernel
theorem dX3_appendState_43 : decode cX3_appendState 43 = .ok (.iconst 0, 1) := by decide +kernel
theorem dX3_appendState_44 : decode cX3_appendState 44 = .ok (.istore_n 2, 1) := by decide +kernel
theorem dX3_appendState_45 : decode cX3_appendState 45 = .ok (.iload_n 2, 1) := by decide +kernel
theorem dX3_appendState_46 : decode cX3_appendState 46 = .ok (.iload_n 1, 1) := by decide +kernel
theorem dX3_appendState_47 : decode cX3_appendState 47 = .ok (.if_icmp .ge 21, 3) := by decide +kernel
theorem dX3_appendState_50 : decode cX3_appendState 50 = .ok (.aload_n 0, 1) := by decide +kernel
theorem dX3_appendState_51 : decode cX3_appendState 51 = .ok (.getfield 11, 3) := by decide +kernel
theorem dX3_appendState_54 : decode cX3_appendState 54 = .ok (.iconst 1, 1) := by decide +kernel
theorem dX3_appendState_55 : decode cX3_appendState 55 = .ok (.iload_n 2, 1) := by decide +kernel
theorem dX3_appendState_56 : decode cX3_appendState 56 = .ok (.iload_n 1, 1) := by decide +kernel
theorem dX3_appendState_57 : decode cX3_appendState 57 = .ok (.invokestatic 48, 3) := by decide +kernel
theorem dX3_appendState_60 : decode cX3_appendState 60 = .ok (.iconst 1, 1) := by decide +kernel
theorem dX3_appendState_61 : decode cX3_appendState 61 = .ok (.iastore, 1) := by decide +kernel
theorem dX3_appendState_62 : decode cX3_appendState 62 = .ok (.iinc 2 1, 3) := by decide +kernel
theorem dX3_appendState_65 : decode cX3_appendState 65 = .ok (.goto (-20), 3) := by decide +kernel
theorem dX3_appendState_68 : decode cX3_appendState 68 = .ok (.return_, 1) := by decide +kernel
theorem dX3_appendTwin_0 : decode cX3_appendTwin 0 = .ok (.aload_n 0, 1) := by decide +kernel
theorem dX3_appendTwin_1 : decode cX3_appendTwin 1 = .ok (.getfield 15, 3) := by decide +kernel
theorem dX3_appendTwin_4 : decode cX3_appendTwin 4 = .ok (.istore_n 2, 1) := by decide +kernel
theorem dX3_appendTwin_5 : decode cX3_appendTwin 5 = .ok (.aload_n 0, 1) := by decide +kernel
theorem dX3_appendTwin_6 : decode cX3_appendTwin 6 = .ok (.dup, 1) := by decide +kernel
theorem dX3_appendTwin_7 : decode cX3_appendTwin 7 = .ok (.getfield 15, 3) := by decide +kernel
theorem dX3_appendTwin_10 : decode cX3_appendTwin 10 = .ok (.iconst 1, 1) := by decide +kernel
theorem dX3_appendTwin_11 : decode cX3_appendTwin 11 = .ok (.iadd, 1) := by decide +kernel
theorem dX3_appendTwin_12 : decode cX3_appendTwin 12 = .ok (.putfield 15, 3) := by decide +kernel
theorem dX3_appendTwin_15 : decode cX3_appendTwin 15 = .ok (.aload_n 0, 1) := by decide +kernel
theorem dX3_appendTwin_16 : decode cX3_appendTwin 16 = .ok (.getfield 11, 3) := by decide +kernel
theorem dX3_appendTwin_19 : decode cX3_appendTwin 19 = .ok (.iload_n 1, 1) := by decide +kernel
theorem dX3_appendTwin_20 : decode cX3_appendTwin 20 = .ok (.bipush 8, 2) := by decide +kernel
theorem dX3_appendTwin_22 : decode cX3_appendTwin 22 = .ok (.imul, 1) := by decide +kernel
theorem dX3_appendTwin_23 : decode cX3_appendTwin 23 = .ok (.aload_n 0, 1) := by decide +kernel
theorem dX3_appendTwin_24 : decode cX3_appendTwin 24 = .ok (.getfield 11, 3) := by decide +kernel
theorem dX3_appendTwin_27 : decode cX3_appendTwin 27 = .ok (.iload_n 2, 1) := by decide +kernel
theorem dX3_appendTwin_28 : decode cX3_appendTwin 28 = .ok (.bipush 8, 2) := by decide +kernel
theorem dX3_appendTwin_30 : decode cX3_appendTwin 30 = .ok (.imul, 1) := by decide +kernel
theorem dX3_appendTwin_31 : decode cX3_appendTwin 31 = .ok (.bipush 8, 2) := by decide +kernel
theorem dX3_appendTwin_33 : decode cX3_appendTwin 33 = .ok (.invokestatic 28, 3) := by decide +kernel
theorem dX3_appendTwin_36 : decode cX3_appendTwin 36 = .ok (.iconst 0, 1) := by decide +kernel
theorem dX3_appendTwin_37 : decode cX3_appendTwin 37 = .ok (.istore_n 3, 1) := by decide +kernel
theorem dX3_appendTwin_38 : decode cX3_appendTwin 38 = .ok (.iload_n 3, 1) := by decide +kernel
theorem dX3_appendTwin_39 : decode cX3_appendTwin 39 = .ok (.aload_n 0, 1) := by decide +kernel
theorem dX3_appendTwin_40 : decode cX3_appendTwin 40 = .ok (.getfield 15, 3) := by decide +kernel
theorem dX3_appendTwin_43 : decode cX3_appendTwin 43 = .ok (.if_icmp .ge 26, 3) := by decide +kernel
theorem dX3_appendTwin_46 : decode cX3_appendTwin 46 = .ok (.aload_n 0, 1) := by decide +kernel
theorem dX3_appendTwin_47 : decode cX3_appendTwin 47 = .ok (.getfield 11, 3) := by decide +kernel
theorem dX3_appendTwin_50 : decode cX3_appendTwin 50 = .ok (.iconst 1, 1) := by decide +kernel
theorem dX3_appendTwin_51 : decode cX3_appendTwin 51 = .ok (.iload_n 3, 1) := by decide +kernel
theorem dX3_appendTwin_52 : decode cX3_appendTwin 52 = .ok (.iload_n 2, 1) := by decide +kernel
theorem dX3_appendTwin_53 : decode cX3_appendTwin 53 = .ok (.invokestatic 48, 3) := by decide +kernel
theorem dX3_appendTwin_56 : decode cX3_appendTwin 56 = .ok (.aload_n 0, 1) := by decide +kernel
theorem dX3_appendTwin_57 : decode cX3_appendTwin 57 = .ok (.iload_n 3, 1) := by decide +kernel
theorem dX3_appendTwin_58 : decode cX3_appendTwin 58 = .ok (.iload_n 1, 1) := by decide +kernel
theorem dX3_appendTwin_59 : decode cX3_appendTwin 59 = .ok (.invokevirtual 62, 3) := by decide +kernel
theorem dX3_appendTwin_62 : decode cX3_appendTwin 62 = .ok (.iastore, 1) := by decide +kernel
theorem dX3_appendTwin_63 : decode cX3_appendTwin 63 = .ok (.iinc 3 1, 3) := by decide +kernel
theorem dX3_appendTwin_66 : decode cX3_appendTwin 66 = .ok (.goto (-28), 3) := by decide +kernel
theorem dX3_appendTwin_69 : decode cX3_appendTwin 69 = .ok (.return_, 1) := by decide +kernel
theorem dX3_merge_0 : decode cX3_merge 0 = .ok (.aload_n 0, 1) := by decide +kernel
theorem dX3_merge_1 : decode cX3_merge 1 = .ok (.iload_n 1, 1) := by decide +kernel
theorem dX3_merge_2 : decode cX3_merge 2 = .ok (.iload_n 1, 1) := by decide +kernel
theorem dX3_merge_3 : decode cX3_merge 3 = .ok (.invokevirtual 62, 3) := by decide +kernel
theorem dX3_merge_6 : decode cX3_merge 6 = .ok (.aload_n 0, 1) := by decide +kernel
theorem dX3_merge_7 : decode cX3_merge 7 = .ok (.iload_n 1, 1) := by decide +kernel
theorem dX3_merge_8 : decode cX3_merge 8 = .ok (.iload_n 2, 1) := by decide +kernel
theorem dX3_merge_9 : decode cX3_merge 9 = .ok (.invokevirtual 62, 3) := by decide +kernel
theorem dX3_merge_12 : decode cX3_merge 12 = .ok (.iadd, 1) := by decide +kernel
theorem dX3_merge_13 : decode cX3_merge 13 = .ok (.aload_n 0, 1) := by decide +kernel
theorem dX3_merge_14 : decode cX3_merge 14 = .ok (.iload_n 2, 1) := by decide +kernel
theorem dX3_merge_15 : decode cX3_merge 15 = .ok (.iload_n 1, 1) := by decide +kernel
theorem dX3_merge_16 : decode cX3_merge 16 = .ok (.invokevirtual 62, 3) := by decide +kernel
theorem dX3_merge_19 : decode cX3_merge 19 = .ok (.iadd, 1) := by decide +kernel
theorem dX3_merge_20 : decode cX3_merge 20 = .ok (.aload_n 0, 1) := by decide +kernel
theorem dX3_merge_21 : decode cX3_merge 21 = .ok (.iload_n 2, 1) := by decide +kernel
theorem dX3_merge_22 : decode cX3_merge 22 = .ok (.iload_n 2, 1) := by decide +kernel
theorem dX3_merge_23 : decode cX3_merge 23 = .ok (.invokevirtual 62, 3) := by decide +kernel
theorem dX3_merge_26 : decode cX3_merge 26 = .ok (.iadd, 1) := by decide +kernel
theorem dX3_merge_27 : decode cX3_merge 27 = .ok (.istore_n 3, 1) := by decide +kernel
theorem dX3_merge_28 : decode cX3_merge 28 = .ok (.iconst 0, 1) := by decide +kernel
theorem dX3_merge_29 : decode cX3_merge 29 = .ok (.istore 4, 2) := by decide +kernel
theorem dX3_merge_31 : decode cX3_merge 31 = .ok (.iload 4, 2) := by decide +kernel
theorem dX3_merge_33 : decode cX3_merge 33 = .ok (.bipush 8, 2) := by decide +kernel
theorem dX3_merge_35 : decode cX3_merge 35 = .ok (.if_icmp .ge 27, 3) := by decide +kernel
theorem dX3_merge_38 : decode cX3_merge 38 = .ok (.aload_n 0, 1) := by decide +kernel
theorem dX3_merge_39 : decode cX3_merge 39 = .ok (.iload_n 1, 1) := by decide +kernel
theorem dX3_merge_40 : decode cX3_merge 40 = .ok (.bipush 8, 2) := by decide +kernel
theorem dX3_merge_42 : decode cX3_merge 42 = .ok (.imul, 1) := by decide +kernel
theorem dX3_merge_43 : decode cX3_merge 43 = .ok (.iload 4, 2) := by decide +kernel
theorem dX3_merge_45 : decode cX3_merge 45 = .ok (.iadd, 1) := by decide +kernel
theorem dX3_merge_46 : decode cX3_merge 46 = .ok (.iload_n 2, 1) := by decide +kernel
theorem dX3_merge_47 : decode cX3_merge 47 = .ok (.bipush 8, 2) := by decide +kernel
theorem dX3_merge_49 : decode cX3_merge 49 = .ok (.imul, 1) := by decide +kernel
theorem dX3_merge_50 : decode cX3_merge 50 = .ok (.iload 4, 2) := by decide +kernel
theorem dX3_merge_52 : decode cX3_merge 52 = .ok (.iadd, 1) := by decide +kernel
theorem dX3_merge_53 : decode cX3_merge 53 = .ok (.invokevirtual 65, 3) := by decide +kernel
theorem dX3_merge_56 : decode cX3_merge 56 = .ok (.iinc 4 1, 3) := by decide +kernel
theorem dX3_merge_59 : decode cX3_merge 59 = .ok (.goto (-28), 3) := by decide +kernel
theorem dX3_merge_62 : decode cX3_merge 62 = .ok (.iconst 0, 1) := by decide +kernel
theorem dX3_merge_63 : decode cX3_merge 63 = .ok (.istore 4, 2) := by decide +kernel
theorem dX3_merge_65 : decode cX3_merge 65 = .ok (.iload 4, 2) := by decide +kernel
theorem dX3_merge_67 : decode cX3_merge 67 = .ok (.aload_n 0, 1) := by decide +kernel
theorem dX3_merge_68 : decode cX3_merge 68 = .ok (.getfield 15, 3) := by decide +kernel
theorem dX3_merge_71 : decode cX3_merge 71 = .ok (.if_icmp .ge 27, 3) := by decide +kernel
theorem dX3_merge_74 : decode cX3_merge 74 = .ok (.aload_n 0, 1) := by decide +kernel
theorem dX3_merge_75 : decode cX3_merge 75 = .ok (.iconst 1, 1) := by decide +kernel
theorem dX3_merge_76 : decode cX3_merge 76 = .ok (.iload 4, 2) := by decide +kernel
theorem dX3_merge_78 : decode cX3_merge 78 = .ok (.iload_n 1, 1) := by decide +kernel
theorem dX3_merge_79 : decode cX3_merge 79 = .ok (.invokestatic 48, 3) := by decide +kernel
theorem dX3_merge_82 : decode cX3_merge 82 = .ok (.iconst 1, 1) := by decide +kernel
theorem dX3_merge_83 : decode cX3_merge 83 = .ok (.iload 4, 2) := by decide +kernel
theorem dX3_merge_85 : decode cX3_merge 85 = .ok (.iload_n 2, 1) := by decide +kernel
theorem dX3_merge_86 : decode cX3_merge 86 = .ok (.invokestatic 48, 3) := by decide +kernel
theorem dX3_merge_89 : decode cX3_merge 89 = .ok (.invokevirtual 65, 3) := by decide +kernel
theorem dX3_merge_92 : decode cX3_merge 92 = .ok (.iinc 4 1, 3) := by decide +kernel
theorem dX3_merge_95 : decode cX3_merge 95 = .ok (.goto (-30), 3) := by decide +kernel
theorem dX3_merge_98 : decode cX3_merge 98 = .ok (.aload_n 0, 1) := by decide +kernel
theorem dX3_merge_99 : decode cX3_merge 99 = .ok (.getfield 11, 3) := by decide +kernel
theorem dX3_merge_102 : decode cX3_merge 102 = .ok (.iconst 1, 1) := by decide +kernel
theorem dX3_merge_103 : decode cX3_merge 103 = .ok (.iload_n 1, 1) := by decide +kernel
theorem dX3_merge_104 : decode cX3_merge 104 = .ok (.iload_n 1, 1) := by decide +kernel
theorem dX3_merge_105 : decode cX3_merge 105 = .ok (.invokestatic 48, 3) := by decide +kernel
theorem dX3_merge_108 : decode cX3_merge 108 = .ok (.iload_n 3, 1) := by decide +kernel
theorem dX3_merge_109 : decode cX3_merge 109 = .ok (.bipush 6, 2) := by decide +kernel
theorem dX3_merge_111 : decode cX3_merge 111 = .ok (.invokestatic 69, 3) := by decide +kernel
theorem dX3_merge_114 : decode cX3_merge 114 = .ok (.iastore, 1) := by decide +kernel
theorem dX3_merge_115 : decode cX3_merge 115 = .ok (.aload_n 0, 1) := by decide +kernel
theorem dX3_merge_116 : decode cX3_merge 116 = .ok (.iload_n 2, 1) := by decide +kernel
theorem dX3_merge_117 : decode cX3_merge 117 = .ok (.invokevirtual 74, 3) := by decide +kernel
theorem dX3_merge_120 : decode cX3_merge 120 = .ok (.return_, 1) := by decide +kernel
theorem dX3_addInto_0 : decode cX3_addInto 0 = .ok (.aload_n 0, 1) := by decide +kernel
theorem dX3_addInto_1 : decode cX3_addInto 1 = .ok (.getfield 11, 3) := by decide +kernel
theorem dX3_addInto_4 : decode cX3_addInto 4 = .ok (.iload_n 1, 1) := by decide +kernel
theorem dX3_addInto_5 : decode cX3_addInto 5 = .ok (.aload_n 0, 1) := by decide +kernel
theorem dX3_addInto_6 : decode cX3_addInto 6 = .ok (.getfield 11, 3) := by decide +kernel
theorem dX3_addInto_9 : decode cX3_addInto 9 = .ok (.iload_n 1, 1) := by decide +kernel
theorem dX3_addInto_10 : decode cX3_addInto 10 = .ok (.iaload, 1) := by decide +kernel
theorem dX3_addInto_11 : decode cX3_addInto 11 = .ok (.aload_n 0, 1) := by decide +kernel
theorem dX3_addInto_12 : decode cX3_addInto 12 = .ok (.getfield 11, 3) := by decide +kernel
theorem dX3_addInto_15 : decode cX3_addInto 15 = .ok (.iload_n 2, 1) := by decide +kernel
theorem dX3_addInto_16 : decode cX3_addInto 16 = .ok (.iaload, 1) := by decide +kernel
theorem dX3_addInto_17 : decode cX3_addInto 17 = .ok (.iadd, 1) := by decide +kernel
theorem dX3_addInto_18 : decode cX3_addInto 18 = .ok (.bipush 6, 2) := by decide +kernel
theorem dX3_addInto_20 : decode cX3_addInto 20 = .ok (.invokestatic 69, 3) := by decide +kernel
theorem dX3_addInto_23 : decode cX3_addInto 23 = .ok (.iastore, 1) := by decide +kernel
theorem dX3_addInto_24 : decode cX3_addInto 24 = .ok (.return_, 1) := by decide +kernel
theorem dX3_dropState_0 : decode cX3_dropState 0 = .ok (.aload_n 0, 1) := by decide +kernel
theorem dX3_dropState_1 : decode cX3_dropState 1 = .ok (.getfield 15, 3) := by decide +kernel
theorem dX3_dropState_4 : decode cX3_dropState 4 = .ok (.iconst 1, 1) := by decide +kernel
theorem dX3_dropState_5 : decode cX3_dropState 5 = .ok (.isub, 1) := by decide +kernel
theorem dX3_dropState_6 : decode cX3_dropState 6 = .ok (.iload_n 1, 1) := by decide +kernel
theorem dX3_dropState_7 : decode cX3_dropState 7 = .ok (.isub, 1) := by decide +kernel
theorem dX3_dropState_8 : decode cX3_dropState 8 = .ok (.istore_n 2, 1) := by decide +kernel
theorem dX3_dropState_9 : decode cX3_dropState 9 = .ok (.aload_n 0, 1) := by decide +kernel
theorem dX3_dropState_10 : decode cX3_dropState 10 = .ok (.getfield 11, 3) := by decide +kernel
theorem dX3_dropState_13 : decode cX3_dropState 13 = .ok (.iload_n 1, 1) := by decide +kernel
theorem dX3_dropState_14 : decode cX3_dropState 14 = .ok (.iconst 1, 1) := by decide +kernel
theorem dX3_dropState_15 : decode cX3_dropState 15 = .ok (.iadd, 1) := by decide +kernel
theorem dX3_dropState_16 : decode cX3_dropState 16 = .ok (.bipush 8, 2) := by decide +kernel
theorem dX3_dropState_18 : decode cX3_dropState 18 = .ok (.imul, 1) := by decide +kernel
theorem dX3_dropState_19 : decode cX3_dropState 19 = .ok (.aload_n 0, 1) := by decide +kernel
theorem dX3_dropState_20 : decode cX3_dropState 20 = .ok (.getfield 11, 3) := by decide +kernel
theorem dX3_dropState_23 : decode cX3_dropState 23 = .ok (.iload_n 1, 1) := by decide +kernel
theorem dX3_dropState_24 : decode cX3_dropState 24 = .ok (.bipush 8, 2) := by decide +kernel
theorem dX3_dropState_26 : decode cX3_dropState 26 = .ok (.imul, 1) := by decide +kernel
theorem dX3_dropState_27 : decode cX3_dropState 27 = .ok (.iload_n 2, 1) := by decide +kernel
theorem dX3_dropState_28 : decode cX3_dropState 28 = .ok (.bipush 8, 2) := by decide +kernel
theorem dX3_dropState_30 : decode cX3_dropState 30 = .ok (.imul, 1) := by decide +kernel
theorem dX3_dropState_31 : decode cX3_dropState 31 = .ok (.invokestatic 28, 3) := by decide +kernel
theorem dX3_dropState_34 : decode cX3_dropState 34 = .ok (.aload_n 0, 1) := by decide +kernel
theorem dX3_dropState_35 : decode cX3_dropState 35 = .ok (.dup, 1) := by decide +kernel
theorem dX3_dropState_36 : decode cX3_dropState 36 = .ok (.getfield 15, 3) := by decide +kernel
theorem dX3_dropState_39 : decode cX3_dropState 39 = .ok (.iconst 1, 1) := by decide +kernel
theorem dX3_dropState_40 : decode cX3_dropState 40 = .ok (.isub, 1) := by decide +kernel
theorem dX3_dropState_41 : decode cX3_dropState 41 = .ok (.putfield 15, 3) := by decide +kernel
theorem dX3_dropState_44 : decode cX3_dropState 44 = .ok (.iconst 0, 1) := by decide +kernel
theorem dX3_dropState_45 : decode cX3_dropState 45 = .ok (.istore_n 3, 1) := by decide +kernel
theorem dX3_dropState_46 : decode cX3_dropState 46 = .ok (.iload_n 3, 1) := by decide +kernel
theorem dX3_dropState_47 : decode cX3_dropState 47 = .ok (.aload_n 0, 1) := by decide +kernel
theorem dX3_dropState_48 : decode cX3_dropState 48 = .ok (.getfield 15, 3) := by decide +kernel
theorem dX3_dropState_51 : decode cX3_dropState 51 = .ok (.if_icmp .ge 48, 3) := by decide +kernel
theorem dX3_dropState_54 : decode cX3_dropState 54 = .ok (.iload_n 1, 1) := by decide +kernel
theorem dX3_dropState_55 : decode cX3_dropState 55 = .ok (.istore 4, 2) := by decide +kernel
theorem dX3_dropState_57 : decode cX3_dropState 57 = .ok (.iload 4, 2) := by decide +kernel
theorem dX3_dropState_59 : decode cX3_dropState 59 = .ok (.aload_n 0, 1) := by decide +kernel
theorem dX3_dropState_60 : decode cX3_dropState 60 = .ok (.getfield 15, 3) := by decide +kernel
theorem dX3_dropState_63 : decode cX3_dropState 63 = .ok (.if_icmp .ge 30, 3) := by decide +kernel
theorem dX3_dropState_66 : decode cX3_dropState 66 = .ok (.aload_n 0, 1) := by decide +kernel
theorem dX3_dropState_67 : decode cX3_dropState 67 = .ok (.getfield 11, 3) := by decide +kernel
theorem dX3_dropState_70 : decode cX3_dropState 70 = .ok (.iconst 1, 1) := by decide +kernel
theorem dX3_dropState_71 : decode cX3_dropState 71 = .ok (.iload_n 3, 1) := by decide +kernel
theorem dX3_dropState_72 : decode cX3_dropState 72 = .ok (.iload 4, 2) := by decide +kernel
theorem dX3_dropState_74 : decode cX3_dropState 74 = .ok (.invokestatic 48, 3) := by decide +kernel
theorem dX3_dropState_77 : decode cX3_dropState 77 = .ok (.aload_n 0, 1) := by decide +kernel
theorem dX3_dropState_78 : decode cX3_dropState 78 = .ok (.iload_n 3, 1) := by decide +kernel
theorem dX3_dropState_79 : decode cX3_dropState 79 = .ok (.iload 4, 2) := by decide +kernel
theorem dX3_dropState_81 : decode cX3_dropState 81 = .ok (.iconst 1, 1) := by decide +kernel
theorem dX3_dropState_82 : decode cX3_dropState 82 = .ok (.iadd, 1) := by decide +kernel
theorem dX3_dropState_83 : decode cX3_dropState 83 = .ok (.invokevirtual 62, 3) := by decide +kernel
theorem dX3_dropState_86 : decode cX3_dropState 86 = .ok (.iastore, 1) := by decide +kernel
theorem dX3_dropState_87 : decode cX3_dropState 87 = .ok (.iinc 4 1, 3) := by decide +kernel
theorem dX3_dropState_90 : decode cX3_dropState 90 = .ok (.goto (-33), 3) := by decide +kernel
theorem dX3_dropState_93 : decode cX3_dropState 93 = .ok (.iinc 3 1, 3) := by decide +kernel
theorem dX3_dropState_96 : decode cX3_dropState 96 = .ok (.goto (-50), 3) := by decide +kernel
theorem dX3_dropState_99 : decode cX3_dropState 99 = .ok (.return_, 1) := by decide +kernel
theorem dX3_beginSample_0 : decode cX3_beginSample 0 = .ok (.aload_n 0, 1) := by decide +kernel
theorem dX3_beginSample_1 : decode cX3_beginSample 1 = .ok (.getfield 22, 3) := by decide +kernel
theorem dX3_beginSample_4 : decode cX3_beginSample 4 = .ok (.aload_n 0, 1) := by decide +kernel
theorem dX3_beginSample_5 : decode cX3_beginSample 5 = .ok (.getfield 34, 3) := by decide +kernel
theorem dX3_beginSample_8 : decode cX3_beginSample 8 = .ok (.iconst 0, 1) := by decide +kernel
theorem dX3_beginSample_9 : decode cX3_beginSample 9 = .ok (.iastore, 1) := by decide +kernel
theorem dX3_beginSample_10 : decode cX3_beginSample 10 = .ok (.aload_n 0, 1) := by decide +kernel
theorem dX3_beginSample_11 : decode cX3_beginSample 11 = .ok (.dup, 1) := by decide +kernel
theorem dX3_beginSample_12 : decode cX3_beginSample 12 = .ok (.getfield 34, 3) := by decide +kernel
theorem dX3_beginSample_15 : decode cX3_beginSample 15 = .ok (.iconst 1, 1) := by decide +kernel
theorem dX3_beginSample_16 : decode cX3_beginSample 16 = .ok (.iadd, 1) := by decide +kernel
theorem dX3_beginSample_17 : decode cX3_beginSample 17 = .ok (.putfield 34, 3) := by decide +kernel
theorem dX3_beginSample_20 : decode cX3_beginSample 20 = .ok (.return_, 1) := by decide +kernel
theorem dX3_appendSign_0 : decode cX3_appendSign 0 = .ok (.aload_n 0, 1) := by decide +kernel
theorem dX3_appendSign_1 : decode cX3_appendSign 1 = .ok (.getfield 34, 3) := by decide +kernel
theorem dX3_appendSign_4 : decode cX3_appendSign 4 = .ok (.iconst 1, 1) := by decide +kernel
theorem dX3_appendSign_5 : decode cX3_appendSign 5 = .ok (.isub, 1) := by decide +kernel
theorem dX3_appendSign_6 : decode cX3_appendSign 6 = .ok (.istore_n 2, 1) := by decide +kernel
theorem dX3_appendSign_7 : decode cX3_appendSign 7 = .ok (.aload_n 0, 1) := by decide +kernel
theorem dX3_appendSign_8 : decode cX3_appendSign 8 = .ok (.getfield 25, 3) := by decide +kernel
theorem dX3_appendSign_11 : decode cX3_appendSign 11 = .ok (.iload_n 2, 1) := by decide +kernel
theorem dX3_appendSign_12 : decode cX3_appendSign 12 = .ok (.bipush 7, 2) := by decide +kernel
theorem dX3_appendSign_14 : decode cX3_appendSign 14 = .ok (.imul, 1) := by decide +kernel
theorem dX3_appendSign_15 : decode cX3_appendSign 15 = .ok (.aload_n 0, 1) := by decide +kernel
theorem dX3_appendSign_16 : decode cX3_appendSign 16 = .ok (.getfield 22, 3) := by decide +kernel
theorem dX3_appendSign_19 : decode cX3_appendSign 19 = .ok (.iload_n 2, 1) := by decide +kernel
theorem dX3_appendSign_20 : decode cX3_appendSign 20 = .ok (.iaload, 1) := by decide +kernel
theorem dX3_appendSign_21 : decode cX3_appendSign 21 = .ok (.iadd, 1) := by decide +kernel
theorem dX3_appendSign_22 : decode cX3_appendSign 22 = .ok (.iload_n 1, 1) := by decide +kernel
theorem dX3_appendSign_23 : decode cX3_appendSign 23 = .ok (.iastore, 1) := by decide +kernel
theorem dX3_appendSign_24 : decode cX3_appendSign 24 = .ok (.aload_n 0, 1) := by decide +kernel
theorem dX3_appendSign_25 : decode cX3_appendSign 25 = .ok (.getfield 22, 3) := by decide +kernel
theorem dX3_appendSign_28 : decode cX3_appendSign 28 = .ok (.iload_n 2, 1) := by decide +kernel
theorem dX3_appendSign_29 : decode cX3_appendSign 29 = .ok (.dup2, 1) := by decide +kernel
theorem dX3_appendSign_30 : decode cX3_appendSign 30 = .ok (.iaload, 1) := by decide +kernel
theorem dX3_appendSign_31 : decode cX3_appendSign 31 = .ok (.iconst 1, 1) := by decide +kernel
theorem dX3_appendSign_32 : decode cX3_appendSign 32 = .ok (.iadd, 1) := by decide +kernel
theorem dX3_appendSign_33 : decode cX3_appendSign 33 = .ok (.iastore, 1) := by decide +kernel
theorem dX3_appendSign_34 : decode cX3_appendSign 34 = .ok (.return_, 1) := by decide +kernel
theorem dX3_dropSample_0 : decode cX3_dropSample 0 = .ok (.aload_n 0, 1) := by decide +kernel
theorem dX3_dropSample_1 : decode cX3_dropSample 1 = .ok (.getfield 34, 3) := by decide +kernel
theorem dX3_dropSample_4 : decode cX3_dropSample 4 = .ok (.iconst 1, 1) := by decide +kernel
theorem dX3_dropSample_5 : decode cX3_dropSample 5 = .ok (.isub, 1) := by decide +kernel
theorem dX3_dropSample_6 : decode cX3_dropSample 6 = .ok (.iload_n 1, 1) := by decide +kernel
theorem dX3_dropSample_7 : decode cX3_dropSample 7 = .ok (.isub, 1) := by decide +kernel
theorem dX3_dropSample_8 : decode cX3_dropSample 8 = .ok (.istore_n 2, 1) := by decide +kernel
theorem dX3_dropSample_9 : decode cX3_dropSample 9 = .ok (.aload_n 0, 1) := by decide +kernel
theorem dX3_dropSample_10 : decode cX3_dropSample 10 = .ok (.getfield 22, 3) := by decide +kernel
theorem dX3_dropSample_13 : decode cX3_dropSample 13 = .ok (.iload_n 1, 1) := by decide +kernel
theorem dX3_dropSample_14 : decode cX3_dropSample 14 = .ok (.iconst 1, 1) := by decide +kernel
theorem dX3_dropSample_15 : decode cX3_dropSample 15 = .ok (.iadd, 1) := by decide +kernel
theorem dX3_dropSample_16 : decode cX3_dropSample 16 = .ok (.aload_n 0, 1) := by decide +kernel
theorem dX3_dropSample_17 : decode cX3_dropSample 17 = .ok (.getfield 22, 3) := by decide +kernel
theorem dX3_dropSample_20 : decode cX3_dropSample 20 = .ok (.iload_n 1, 1) := by decide +kernel
theorem dX3_dropSample_21 : decode cX3_dropSample 21 = .ok (.iload_n 2, 1) := by decide +kernel
theorem dX3_dropSample_22 : decode cX3_dropSample 22 = .ok (.invokestatic 28, 3) := by decide +kernel
theorem dX3_dropSample_25 : decode cX3_dropSample 25 = .ok (.iload_n 1, 1) := by decide +kernel
theorem dX3_dropSample_26 : decode cX3_dropSample 26 = .ok (.iconst 1, 1) := by decide +kernel
theorem dX3_dropSample_27 : decode cX3_dropSample 27 = .ok (.iadd, 1) := by decide +kernel
theorem dX3_dropSample_28 : decode cX3_dropSample 28 = .ok (.bipush 7, 2) := by decide +kernel
theorem dX3_dropSample_30 : decode cX3_dropSample 30 = .ok (.imul, 1) := by decide +kernel
theorem dX3_dropSample_31 : decode cX3_dropSample 31 = .ok (.istore_n 3, 1) := by decide +kernel
theorem dX3_dropSample_32 : decode cX3_dropSample 32 = .ok (.aload_n 0, 1) := by decide +kernel
theorem dX3_dropSample_33 : decode cX3_dropSample 33 = .ok (.getfield 25, 3) := by decide +kernel
theorem dX3_dropSample_36 : decode cX3_dropSample 36 = .ok (.iload_n 3, 1) := by decide +kernel
theorem dX3_dropSample_37 : decode cX3_dropSample 37 = .ok (.aload_n 0, 1) := by decide +kernel
theorem dX3_dropSample_38 : decode cX3_dropSample 38 = .ok (.getfield 25, 3) := by decide +kernel
theorem dX3_dropSample_41 : decode cX3_dropSample 41 = .ok (.iload_n 1, 1) := by decide +kernel
theorem dX3_dropSample_42 : decode cX3_dropSample 42 = .ok (.bipush 7, 2) := by decide +kernel
theorem dX3_dropSample_44 : decode cX3_dropSample 44 = .ok (.imul, 1) := by decide +kernel
theorem dX3_dropSample_45 : decode cX3_dropSample 45 = .ok (.iload_n 2, 1) := by decide +kernel
theorem dX3_dropSample_46 : decode cX3_dropSample 46 = .ok (.bipush 7, 2) := by decide +kernel
theorem dX3_dropSample_48 : decode cX3_dropSample 48 = .ok (.imul, 1) := by decide +kernel
theorem dX3_dropSample_49 : decode cX3_dropSample 49 = .ok (.invokestatic 28, 3) := by decide +kernel
theorem dX3_dropSample_52 : decode cX3_dropSample 52 = .ok (.aload_n 0, 1) := by decide +kernel
theorem dX3_dropSample_53 : decode cX3_dropSample 53 = .ok (.dup, 1) := by decide +kernel
theorem dX3_dropSample_54 : decode cX3_dropSample 54 = .ok (.getfield 34, 3) := by decide +kernel
theorem dX3_dropSample_57 : decode cX3_dropSample 57 = .ok (.iconst 1, 1) := by decide +kernel
theorem dX3_dropSample_58 : decode cX3_dropSample 58 = .ok (.isub, 1) := by decide +kernel
theorem dX3_dropSample_59 : decode cX3_dropSample 59 = .ok (.putfield 34, 3) := by decide +kernel
theorem dX3_dropSample_62 : decode cX3_dropSample 62 = .ok (.return_, 1) := by decide +kernel
theorem dX4_init_0 : decode cX4_init 0 = .ok (.aload_n 0, 1) := by decide +kernel
theorem dX4_init_1 : decode cX4_init 1 = .ok (.invokespecial 3, 3) := by decide +kernel
theorem dX4_init_4 : decode cX4_init 4 = .ok (.aload_n 0, 1) := by decide +kernel
theorem dX4_init_5 : decode cX4_init 5 = .ok (.aload_n 1, 1) := by decide +kernel
theorem dX4_init_6 : decode cX4_init 6 = .ok (.putfield 9, 3) := by decide +kernel
theorem dX4_init_9 : decode cX4_init 9 = .ok (.aload_n 0, 1) := by decide +kernel
theorem dX4_init_10 : decode cX4_init 10 = .ok (.bipush 28, 2) := by decide +kernel
theorem dX4_init_12 : decode cX4_init 12 = .ok (.newarray .int, 2) := by decide +kernel
theorem dX4_init_14 : decode cX4_init 14 = .ok (.putfield 15, 3) := by decide +kernel
theorem dX4_init_17 : decode cX4_init 17 = .ok (.return_, 1) := by decide +kernel
theorem dX4_read_0 : decode cX4_read 0 = .ok (.aload_n 0, 1) := by decide +kernel
theorem dX4_read_1 : decode cX4_read 1 = .ok (.getfield 9, 3) := by decide +kernel
theorem dX4_read_4 : decode cX4_read 4 = .ok (.getfield 19, 3) := by decide +kernel
theorem dX4_read_7 : decode cX4_read 7 = .ok (.iload_n 1, 1) := by decide +kernel
theorem dX4_read_8 : decode cX4_read 8 = .ok (.iaload, 1) := by decide +kernel
theorem dX4_read_9 : decode cX4_read 9 = .ok (.istore_n 2, 1) := by decide +kernel
theorem dX4_read_10 : decode cX4_read 10 = .ok (.iload_n 2, 1) := by decide +kernel
theorem dX4_read_11 : decode cX4_read 11 = .ok (.iconst 1, 1) := by decide +kernel
theorem dX4_read_12 : decode cX4_read 12 = .ok (.isub, 1) := by decide +kernel
theorem dX4_read_13 : decode cX4_read 13 = .ok (.istore_n 3, 1) := by decide +kernel
theorem dX4_read_14 : decode cX4_read 14 = .ok (.iload_n 3, 1) := by decide +kernel
theorem dX4_read_15 : decode cX4_read 15 = .ok (.ifCond .lt 93, 3) := by decide +kernel
theorem dX4_read_18 : decode cX4_read 18 = .ok (.iconst 0, 1) := by decide +kernel
theorem dX4_read_19 : decode cX4_read 19 = .ok (.istore 4, 2) := by decide +kernel
theorem dX4_read_21 : decode cX4_read 21 = .ok (.iload 4, 2) := by decide +kernel
theorem dX4_read_23 : decode cX4_read 23 = .ok (.aload_n 0, 1) := by decide +kernel
theorem dX4_read_24 : decode cX4_read 24 = .ok (.getfield 9, 3) := by decide +kernel
theorem dX4_read_27 : decode cX4_read 27 = .ok (.getfield 24, 3) := by decide +kernel
theorem dX4_read_30 : decode cX4_read 30 = .ok (.if_icmp .ge 72, 3) := by decide +kernel
theorem dX4_read_33 : decode cX4_read 33 = .ok (.iload_n 3, 1) := by decide +kernel
theorem dX4_read_34 : decode cX4_read 34 = .ok (.iload_n 2, 1) := by decide +kernel
theorem dX4_read_35 : decode cX4_read 35 = .ok (.iconst 1, 1) := by decide +kernel
theorem dX4_read_36 : decode cX4_read 36 = .ok (.isub, 1) := by decide +kernel
theorem dX4_read_37 : decode cX4_read 37 = .ok (.if_icmp .ne 7, 3) := by decide +kernel
theorem dX4_read_40 : decode cX4_read 40 = .ok (.iconst 1, 1) := by decide +kernel
theorem dX4_read_41 : decode cX4_read 41 = .ok (.goto 10, 3) := by decide +kernel
theorem dX4_read_44 : decode cX4_read 44 = .ok (.aload_n 0, 1) := by decide +kernel
theorem dX4_read_45 : decode cX4_read 45 = .ok (.iload_n 3, 1) := by decide +kernel
theorem dX4_read_46 : decode cX4_read 46 = .ok (.iload 4, 2) := by decide +kernel
theorem dX4_read_48 : decode cX4_read 48 = .ok (.invokevirtual 28, 3) := by decide +kernel
theorem dX4_read_51 : decode cX4_read 51 = .ok (.istore 5, 2) := by decide +kernel
theorem dX4_read_53 : decode cX4_read 53 = .ok (.aload_n 0, 1) := by decide +kernel
theorem dX4_read_54 : decode cX4_read 54 = .ok (.getfield 9, 3) := by decide +kernel
theorem dX4_read_57 : decode cX4_read 57 = .ok (.iload 4, 2) := by decide +kernel
theorem dX4_read_59 : decode cX4_read 59 = .ok (.iload_n 1, 1) := by decide +kernel
theorem dX4_read_60 : decode cX4_read 60 = .ok (.iload_n 3, 1) := by decide +kernel
theorem dX4_read_61 : decode cX4_read 61 = .ok (.invokevirtual 32, 3) := by decide +kernel
theorem dX4_read_64 : decode cX4_read 64 = .ok (.ifCond .le 7, 3) := by decide +kernel
theorem dX4_read_67 : decode cX4_read 67 = .ok (.iconst 1, 1) := by decide +kernel
theorem dX4_read_68 : decode cX4_read 68 = .ok (.goto 4, 3) := by decide +kernel
theorem dX4_read_71 : decode cX4_read 71 = .ok (.iconst 0, 1) := by decide +kernel
theorem dX4_read_72 : decode cX4_read 72 = .ok (.istore 6, 2) := by decide +kernel
theorem dX4_read_74 : decode cX4_read 74 = .ok (.aload_n 0, 1) := by decide +kernel
theorem dX4_read_75 : decode cX4_read 75 = .ok (.getfield 15, 3) := by decide +kernel
theorem dX4_read_78 : decode cX4_read 78 = .ok (.iload_n 3, 1) := by decide +kernel
theorem dX4_read_79 : decode cX4_read 79 = .ok (.iconst 4, 1) := by decide +kernel
theorem dX4_read_80 : decode cX4_read 80 = .ok (.imul, 1) := by decide +kernel
theorem dX4_read_81 : decode cX4_read 81 = .ok (.iload 4, 2) := by decide +kernel
theorem dX4_read_83 : decode cX4_read 83 = .ok (.iadd, 1) := by decide +kernel
theorem dX4_read_84 : decode cX4_read 84 = .ok (.iload 6, 2) := by decide +kernel
theorem dX4_read_86 : decode cX4_read 86 = .ok (.ifCond .eq 8, 3) := by decide +kernel
theorem dX4_read_89 : decode cX4_read 89 = .ok (.iload 5, 2) := by decide +kernel
theorem dX4_read_91 : decode cX4_read 91 = .ok (.goto 4, 3) := by decide +kernel
theorem dX4_read_94 : decode cX4_read 94 = .ok (.iconst 0, 1) := by decide +kernel
theorem dX4_read_95 : decode cX4_read 95 = .ok (.iastore, 1) := by decide +kernel
theorem dX4_read_96 : decode cX4_read 96 = .ok (.iinc 4 1, 3) := by decide +kernel
theorem dX4_read_99 : decode cX4_read 99 = .ok (.goto (-78), 3) := by decide +kernel
theorem dX4_read_102 : decode cX4_read 102 = .ok (.iinc 3 (-1), 3) := by decide +kernel
theorem dX4_read_105 : decode cX4_read 105 = .ok (.goto (-91), 3) := by decide +kernel
theorem dX4_read_108 : decode cX4_read 108 = .ok (.aload_n 0, 1) := by decide +kernel
theorem dX4_read_109 : decode cX4_read 109 = .ok (.iconst 0, 1) := by decide +kernel
theorem dX4_read_110 : decode cX4_read 110 = .ok (.putfield 36, 3) := by decide +kernel
theorem dX4_read_113 : decode cX4_read 113 = .ok (.iconst 0, 1) := by decide +kernel
theorem dX4_read_114 : decode cX4_read 114 = .ok (.istore_n 3, 1) := by decide +kernel
theorem dX4_read_115 : decode cX4_read 115 = .ok (.iload_n 3, 1) := by decide +kernel
theorem dX4_read_116 : decode cX4_read 116 = .ok (.aload_n 0, 1) := by decide +kernel
theorem dX4_read_117 : decode cX4_read 117 = .ok (.getfield 9, 3) := by decide +kernel
theorem dX4_read_120 : decode cX4_read 120 = .ok (.getfield 24, 3) := by decide +kernel
theorem dX4_read_123 : decode cX4_read 123 = .ok (.if_icmp .ge 25, 3) := by decide +kernel
theorem dX4_read_126 : decode cX4_read 126 = .ok (.aload_n 0, 1) := by decide +kernel
theorem dX4_read_127 : decode cX4_read 127 = .ok (.dup, 1) := by decide +kernel
theorem dX4_read_128 : decode cX4_read 128 = .ok (.getfield 36, 3) := by decide +kernel
theorem dX4_read_131 : decode cX4_read 131 = .ok (.aload_n 0, 1) := by decide +kernel
theorem dX4_read_132 : decode cX4_read 132 = .ok (.iconst 0, 1) := by decide +kernel
theorem dX4_read_133 : decode cX4_read 133 = .ok (.iconst 0, 1) := by decide +kernel
theorem dX4_read_134 : decode cX4_read 134 = .ok (.iload_n 3, 1) := by decide +kernel
theorem dX4_read_135 : decode cX4_read 135 = .ok (.invokevirtual 39, 3) := by decide +kernel
theorem dX4_read_138 : decode cX4_read 138 = .ok (.iadd, 1) := by decide +kernel
theorem dX4_read_139 : decode cX4_read 139 = .ok (.putfield 36, 3) := by decide +kernel
theorem dX4_read_142 : decode cX4_read 142 = .ok (.iinc 3 1, 3) := by decide +kernel
theorem dX4_read_145 : decode cX4_read 145 = .ok (.goto (-30), 3) := by decide +kernel
theorem dX4_read_148 : decode cX4_read 148 = .ok (.return_, 1) := by decide +kernel
theorem dX4_partsBehind_0 : decode cX4_partsBehind 0 = .ok (.iconst 0, 1) := by decide +kernel
theorem dX4_partsBehind_1 : decode cX4_partsBehind 1 = .ok (.istore_n 3, 1) := by decide +kernel
theorem dX4_partsBehind_2 : decode cX4_partsBehind 2 = .ok (.iconst 0, 1) := by decide +kernel
theorem dX4_partsBehind_3 : decode cX4_partsBehind 3 = .ok (.istore 4, 2) := by decide +kernel
theorem dX4_partsBehind_5 : decode cX4_partsBehind 5 = .ok (.iload 4, 2) := by decide +kernel
theorem dX4_partsBehind_7 : decode cX4_partsBehind 7 = .ok (.aload_n 0, 1) := by decide +kernel
theorem dX4_partsBehind_8 : decode cX4_partsBehind 8 = .ok (.getfield 9, 3) := by decide +kernel
theorem dX4_partsBehind_11 : decode cX4_partsBehind 11 = .ok (.getfield 24, 3) := by decide +kernel
theorem dX4_partsBehind_14 : decode cX4_partsBehind 14 = .ok (.if_icmp .ge 22, 3) := by decide +kernel
theorem dX4_partsBehind_17 : decode cX4_partsBehind 17 = .ok (.iload_n 3, 1) := by decide +kernel
theorem dX4_partsBehind_18 : decode cX4_partsBehind 18 = .ok (.aload_n 0, 1) := by decide +kernel
theorem dX4_partsBehind_19 : decode cX4_partsBehind 19 = .ok (.iload_n 1, 1) := by decide +kernel
theorem dX4_partsBehind_20 : decode cX4_partsBehind 20 = .ok (.iconst 1, 1) := by decide +kernel
theorem dX4_partsBehind_21 : decode cX4_partsBehind 21 = .ok (.iadd, 1) := by decide +kernel
theorem dX4_partsBehind_22 : decode cX4_partsBehind 22 = .ok (.iload_n 2, 1) := by decide +kernel
theorem dX4_partsBehind_23 : decode cX4_partsBehind 23 = .ok (.iload 4, 2) := by decide +kernel
theorem dX4_partsBehind_25 : decode cX4_partsBehind 25 = .ok (.invokevirtual 39, 3) := by decide +kernel
theorem dX4_partsBehind_28 : decode cX4_partsBehind 28 = .ok (.iadd, 1) := by decide +kernel
theorem dX4_partsBehind_29 : decode cX4_partsBehind 29 = .ok (.istore_n 3, 1) := by decide +kernel
theorem dX4_partsBehind_30 : decode cX4_partsBehind 30 = .ok (.iinc 4 1, 3) := by decide +kernel
theorem dX4_partsBehind_33 : decode cX4_partsBehind 33 = .ok (.goto (-28), 3) := by decide +kernel
theorem dX4_partsBehind_36 : decode cX4_partsBehind 36 = .ok (.iload_n 3, 1) := by decide +kernel
theorem dX4_partsBehind_37 : decode cX4_partsBehind 37 = .ok (.ireturn, 1) := by decide +kernel
theorem dX4_entering_0 : decode cX4_entering 0 = .ok (.iload_n 1, 1) := by decide +kernel
theorem dX4_entering_1 : decode cX4_entering 1 = .ok (.ifCond .ne 14, 3) := by decide +kernel
theorem dX4_entering_4 : decode cX4_entering 4 = .ok (.aload_n 0, 1) := by decide +kernel
theorem dX4_entering_5 : decode cX4_entering 5 = .ok (.getfield 9, 3) := by decide +kernel
theorem dX4_entering_8 : decode cX4_entering 8 = .ok (.iload_n 3, 1) := by decide +kernel
theorem dX4_entering_9 : decode cX4_entering 9 = .ok (.invokevirtual 42, 3) := by decide +kernel
theorem dX4_entering_12 : decode cX4_entering 12 = .ok (.goto 12, 3) := by decide +kernel
theorem dX4_entering_15 : decode cX4_entering 15 = .ok (.aload_n 0, 1) := by decide +kernel
theorem dX4_entering_16 : decode cX4_entering 16 = .ok (.getfield 9, 3) := by decide +kernel
theorem dX4_entering_19 : decode cX4_entering 19 = .ok (.iload_n 2, 1) := by decide +kernel
theorem dX4_entering_20 : decode cX4_entering 20 = .ok (.iload_n 3, 1) := by decide +kernel
theorem dX4_entering_21 : decode cX4_entering 21 = .ok (.invokevirtual 46, 3) := by decide +kernel
theorem dX4_entering_24 : decode cX4_entering 24 = .ok (.istore 4, 2) := by decide +kernel
theorem dX4_entering_26 : decode cX4_entering 26 = .ok (.iload 4, 2) := by decide +kernel
theorem dX4_entering_28 : decode cX4_entering 28 = .ok (.ifCond .le 16, 3) := by decide +kernel
theorem dX4_entering_31 : decode cX4_entering 31 = .ok (.aload_n 0, 1) := by decide +kernel
theorem dX4_entering_32 : decode cX4_entering 32 = .ok (.getfield 15, 3) := by decide +kernel
theorem dX4_entering_35 : decode cX4_entering 35 = .ok (.iload_n 1, 1) := by decide +kernel
theorem dX4_entering_36 : decode cX4_entering 36 = .ok (.iconst 4, 1) := by decide +kernel
theorem dX4_entering_37 : decode cX4_entering 37 = .ok (.imul, 1) := by decide +kernel
theorem dX4_entering_38 : decode cX4_entering 38 = .ok (.iload_n 3, 1) := by decide +kernel
theorem dX4_entering_39 : decode cX4_entering 39 = .ok (.iadd, 1) := by decide +kernel
theorem dX4_entering_40 : decode cX4_entering 40 = .ok (.iaload, 1) := by decide +kernel
theorem dX4_entering_41 : decode cX4_entering 41 = .ok (.goto 4, 3) := by decide +kernel
theorem dX4_entering_44 : decode cX4_entering 44 = .ok (.iconst 0, 1) := by decide +kernel
theorem dX4_entering_45 : decode cX4_entering 45 = .ok (.ireturn, 1) := by decide +kernel
theorem dX4_stateAt_0 : decode cX4_stateAt 0 = .ok (.iload_n 1, 1) := by decide +kernel
theorem dX4_stateAt_1 : decode cX4_stateAt 1 = .ok (.istore_n 3, 1) := by decide +kernel
theorem dX4_stateAt_2 : decode cX4_stateAt 2 = .ok (.iconst 0, 1) := by decide +kernel
theorem dX4_stateAt_3 : decode cX4_stateAt 3 = .ok (.istore 4, 2) := by decide +kernel
theorem dX4_stateAt_5 : decode cX4_stateAt 5 = .ok (.iconst 0, 1) := by decide +kernel
theorem dX4_stateAt_6 : decode cX4_stateAt 6 = .ok (.istore 5, 2) := by decide +kernel
theorem dX4_stateAt_8 : decode cX4_stateAt 8 = .ok (.iload 5, 2) := by decide +kernel
theorem dX4_stateAt_10 : decode cX4_stateAt 10 = .ok (.iload_n 2, 1) := by decide +kernel
theorem dX4_stateAt_11 : decode cX4_stateAt 11 = .ok (.if_icmp .gt 63, 3) := by decide +kernel
theorem dX4_stateAt_14 : decode cX4_stateAt 14 = .ok (.iload 4, 2) := by decide +kernel
theorem dX4_stateAt_16 : decode cX4_stateAt 16 = .ok (.istore 6, 2) := by decide +kernel
theorem dX4_stateAt_18 : decode cX4_stateAt 18 = .ok (.iconst 0, 1) := by decide +kernel
theorem dX4_stateAt_19 : decode cX4_stateAt 19 = .ok (.istore 4, 2) := by decide +kernel
theorem dX4_stateAt_21 : decode cX4_stateAt 21 = .ok (.iload 4, 2) := by decide +kernel
theorem dX4_stateAt_23 : decode cX4_stateAt 23 = .ok (.aload_n 0, 1) := by decide +kernel
theorem dX4_stateAt_24 : decode cX4_stateAt 24 = .ok (.getfield 9, 3) := by decide +kernel
theorem dX4_stateAt_27 : decode cX4_stateAt 27 = .ok (.getfield 24, 3) := by decide +kernel
theorem dX4_stateAt_30 : decode cX4_stateAt 30 = .ok (.iconst 1, 1) := by decide +kernel
theorem dX4_stateAt_31 : decode cX4_stateAt 31 = .ok (.isub, 1) := by decide +kernel
theorem dX4_stateAt_32 : decode cX4_stateAt 32 = .ok (.if_icmp .ge 36, 3) := by decide +kernel
theorem dX4_stateAt_35 : decode cX4_stateAt 35 = .ok (.iload_n 3, 1) := by decide +kernel
theorem dX4_stateAt_36 : decode cX4_stateAt 36 = .ok (.aload_n 0, 1) := by decide +kernel
theorem dX4_stateAt_37 : decode cX4_stateAt 37 = .ok (.iload 5, 2) := by decide +kernel
theorem dX4_stateAt_39 : decode cX4_stateAt 39 = .ok (.iload 6, 2) := by decide +kernel
theorem dX4_stateAt_41 : decode cX4_stateAt 41 = .ok (.iload 4, 2) := by decide +kernel
theorem dX4_stateAt_43 : decode cX4_stateAt 43 = .ok (.invokevirtual 39, 3) := by decide +kernel
theorem dX4_stateAt_46 : decode cX4_stateAt 46 = .ok (.if_icmp .lt 22, 3) := by decide +kernel
theorem dX4_stateAt_49 : decode cX4_stateAt 49 = .ok (.iload_n 3, 1) := by decide +kernel
theorem dX4_stateAt_50 : decode cX4_stateAt 50 = .ok (.aload_n 0, 1) := by decide +kernel
theorem dX4_stateAt_51 : decode cX4_stateAt 51 = .ok (.iload 5, 2) := by decide +kernel
theorem dX4_stateAt_53 : decode cX4_stateAt 53 = .ok (.iload 6, 2) := by decide +kernel
theorem dX4_stateAt_55 : decode cX4_stateAt 55 = .ok (.iload 4, 2) := by decide +kernel
theorem dX4_stateAt_57 : decode cX4_stateAt 57 = .ok (.invokevirtual 39, 3) := by decide +kernel
theorem dX4_stateAt_60 : decode cX4_stateAt 60 = .ok (.isub, 1) := by decide +kernel
theorem dX4_stateAt_61 : decode cX4_stateAt 61 = .ok (.istore_n 3, 1) := by decide +kernel
theorem dX4_stateAt_62 : decode cX4_stateAt 62 = .ok (.iinc 4 1, 3) := by decide +kernel
theorem dX4_stateAt_65 : decode cX4_stateAt 65 = .ok (.goto (-44), 3) := by decide +kernel
theorem dX4_stateAt_68 : decode cX4_stateAt 68 = .ok (.iinc 5 1, 3) := by decide +kernel
theorem dX4_stateAt_71 : decode cX4_stateAt 71 = .ok (.goto (-63), 3) := by decide +kernel
theorem dX4_stateAt_74 : decode cX4_stateAt 74 = .ok (.iload 4, 2) := by decide +kernel
theorem dX4_stateAt_76 : decode cX4_stateAt 76 = .ok (.ireturn, 1) := by decide +kernel
theorem dX5_init_0 : decode cX5_init 0 = .ok (.aload_n 0, 1) := by decide +kernel
theorem dX5_init_1 : decode cX5_init 1 = .ok (.invokespecial 3, 3) := by decide +kernel
theorem dX5_init_4 : decode cX5_init 4 = .ok (.aload_n 0, 1) := by decide +kernel
theorem dX5_init_5 : decode cX5_init 5 = .ok (.bipush 60, 2) := by decide +kernel
theorem dX5_init_7 : decode cX5_init 7 = .ok (.newarray .char, 2) := by decide +kernel
theorem dX5_init_9 : decode cX5_init 9 = .ok (.putfield 9, 3) := by decide +kernel
theorem dX5_init_12 : decode cX5_init 12 = .ok (.return_, 1) := by decide +kernel
theorem dX5_append_0 : decode cX5_append 0 = .ok (.aload_n 0, 1) := by decide +kernel
theorem dX5_append_1 : decode cX5_append 1 = .ok (.getfield 9, 3) := by decide +kernel
theorem dX5_append_4 : decode cX5_append 4 = .ok (.aload_n 0, 1) := by decide +kernel
theorem dX5_append_5 : decode cX5_append 5 = .ok (.getfield 15, 3) := by decide +kernel
theorem dX5_append_8 : decode cX5_append 8 = .ok (.iload_n 1, 1) := by decide +kernel
theorem dX5_append_9 : decode cX5_append 9 = .ok (.castore, 1) := by decide +kernel
theorem dX5_append_10 : decode cX5_append 10 = .ok (.aload_n 0, 1) := by decide +kernel
theorem dX5_append_11 : decode cX5_append 11 = .ok (.dup, 1) := by decide +kernel
theorem dX5_append_12 : decode cX5_append 12 = .ok (.getfield 15, 3) := by decide +kernel
theorem dX5_append_15 : decode cX5_append 15 = .ok (.iconst 1, 1) := by decide +kernel
theorem dX5_append_16 : decode cX5_append 16 = .ok (.iadd, 1) := by decide +kernel
theorem dX5_append_17 : decode cX5_append 17 = .ok (.putfield 15, 3) := by decide +kernel
theorem dX5_append_20 : decode cX5_append 20 = .ok (.return_, 1) := by decide +kernel
theorem dX5_empty_0 : decode cX5_empty 0 = .ok (.aload_n 0, 1) := by decide +kernel
theorem dX5_empty_1 : decode cX5_empty 1 = .ok (.iconst 0, 1) := by decide +kernel
theorem dX5_empty_2 : decode cX5_empty 2 = .ok (.putfield 15, 3) := by decide +kernel
theorem dX5_empty_5 : decode cX5_empty 5 = .ok (.return_, 1) := by decide +kernel
theorem dX5_fault_0 : decode cX5_fault 0 = .ok (.iconst 0, 1) := by decide +kernel
theorem dX5_fault_1 : decode cX5_fault 1 = .ok (.istore_n 1, 1) := by decide +kernel
theorem dX5_fault_2 : decode cX5_fault 2 = .ok (.iconst 0, 1) := by decide +kernel
theorem dX5_fault_3 : decode cX5_fault 3 = .ok (.istore_n 2, 1) := by decide +kernel
theorem dX5_fault_4 : decode cX5_fault 4 = .ok (.iload_n 2, 1) := by decide +kernel
theorem dX5_fault_5 : decode cX5_fault 5 = .ok (.aload_n 0, 1) := by decide +kernel
theorem dX5_fault_6 : decode cX5_fault 6 = .ok (.getfield 15, 3) := by decide +kernel
theorem dX5_fault_9 : decode cX5_fault 9 = .ok (.if_icmp .ge 52, 3) := by decide +kernel
theorem dX5_fault_12 : decode cX5_fault 12 = .ok (.aload_n 0, 1) := by decide +kernel
theorem dX5_fault_13 : decode cX5_fault 13 = .ok (.getfield 9, 3) := by decide +kernel
theorem dX5_fault_16 : decode cX5_fault 16 = .ok (.iload_n 2, 1) := by decide +kernel
theorem dX5_fault_17 : decode cX5_fault 17 = .ok (.caload, 1) := by decide +kernel
theorem dX5_fault_18 : decode cX5_fault 18 = .ok (.istore_n 3, 1) := by decide +kernel
theorem dX5_fault_19 : decode cX5_fault 19 = .ok (.iload_n 3, 1) := by decide +kernel
theorem dX5_fault_20 : decode cX5_fault 20 = .ok (.invokestatic 19, 3) := by decide +kernel
theorem dX5_fault_23 : decode cX5_fault 23 = .ok (.ifCond .eq 15, 3) := by decide +kernel
theorem dX5_fault_26 : decode cX5_fault 26 = .ok (.iload_n 1, 1) := by decide +kernel
theorem dX5_fault_27 : decode cX5_fault 27 = .ok (.bipush 7, 2) := by decide +kernel
theorem dX5_fault_29 : decode cX5_fault 29 = .ok (.if_icmp .ge 9, 3) := by decide +kernel
theorem dX5_fault_32 : decode cX5_fault 32 = .ok (.iinc 1 1, 3) := by decide +kernel
theorem dX5_fault_35 : decode cX5_fault 35 = .ok (.goto 20, 3) := by decide +kernel
theorem dX5_fault_38 : decode cX5_fault 38 = .ok (.iload_n 3, 1) := by decide +kernel
theorem dX5_fault_39 : decode cX5_fault 39 = .ok (.bipush 59, 2) := by decide +kernel
theorem dX5_fault_41 : decode cX5_fault 41 = .ok (.if_icmp .ne 12, 3) := by decide +kernel
theorem dX5_fault_44 : decode cX5_fault 44 = .ok (.iload_n 1, 1) := by decide +kernel
theorem dX5_fault_45 : decode cX5_fault 45 = .ok (.ifCond .le 8, 3) := by decide +kernel
theorem dX5_fault_48 : decode cX5_fault 48 = .ok (.iconst 0, 1) := by decide +kernel
theorem dX5_fault_49 : decode cX5_fault 49 = .ok (.istore_n 1, 1) := by decide +kernel
theorem dX5_fault_50 : decode cX5_fault 50 = .ok (.goto 5, 3) := by decide +kernel
theorem dX5_fault_53 : decode cX5_fault 53 = .ok (.iload_n 2, 1) := by decide +kernel
theorem dX5_fault_54 : decode cX5_fault 54 = .ok (.ireturn, 1) := by decide +kernel
theorem dX5_fault_55 : decode cX5_fault 55 = .ok (.iinc 2 1, 3) := by decide +kernel
theorem dX5_fault_58 : decode cX5_fault 58 = .ok (.goto (-54), 3) := by decide +kernel
theorem dX5_fault_61 : decode cX5_fault 61 = .ok (.iload_n 1, 1) := by decide +kernel
theorem dX5_fault_62 : decode cX5_fault 62 = .ok (.ifCond .le 7, 3) := by decide +kernel
theorem dX5_fault_65 : decode cX5_fault 65 = .ok (.iconst (-1), 1) := by decide +kernel
theorem dX5_fault_66 : decode cX5_fault 66 = .ok (.goto 7, 3) := by decide +kernel
theorem dX5_fault_69 : decode cX5_fault 69 = .ok (.aload_n 0, 1) := by decide +kernel
theorem dX5_fault_70 : decode cX5_fault 70 = .ok (.getfield 15, 3) := by decide +kernel
theorem dX5_fault_73 : decode cX5_fault 73 = .ok (.ireturn, 1) := by decide +kernel
theorem dX5_isLetter_0 : decode cX5_isLetter 0 = .ok (.iload_n 0, 1) := by decide +kernel
theorem dX5_isLetter_1 : decode cX5_isLetter 1 = .ok (.bipush 97, 2) := by decide +kernel
theorem dX5_isLetter_3 : decode cX5_isLetter 3 = .ok (.if_icmp .lt 13, 3) := by decide +kernel
theorem dX5_isLetter_6 : decode cX5_isLetter 6 = .ok (.iload_n 0, 1) := by decide +kernel
theorem dX5_isLetter_7 : decode cX5_isLetter 7 = .ok (.bipush 99, 2) := by decide +kernel
theorem dX5_isLetter_9 : decode cX5_isLetter 9 = .ok (.if_icmp .gt 7, 3) := by decide +kernel
theorem dX5_isLetter_12 : decode cX5_isLetter 12 = .ok (.iconst 1, 1) := by decide +kernel
theorem dX5_isLetter_13 : decode cX5_isLetter 13 = .ok (.goto 4, 3) := by decide +kernel
theorem dX5_isLetter_16 : decode cX5_isLetter 16 = .ok (.iconst 0, 1) := by decide +kernel
theorem dX5_isLetter_17 : decode cX5_isLetter 17 = .ok (.ireturn, 1) := by decide +kernel
theorem dX5_samples_0 : decode cX5_samples 0 = .ok (.iconst 1, 1) := by decide +kernel
theorem dX5_samples_1 : decode cX5_samples 1 = .ok (.istore_n 1, 1) := by decide +kernel
theorem dX5_samples_2 : decode cX5_samples 2 = .ok (.iconst 0, 1) := by decide +kernel
theorem dX5_samples_3 : decode cX5_samples 3 = .ok (.istore_n 2, 1) := by decide +kernel
theorem dX5_samples_4 : decode cX5_samples 4 = .ok (.iload_n 2, 1) := by decide +kernel
theorem dX5_samples_5 : decode cX5_samples 5 = .ok (.aload_n 0, 1) := by decide +kernel
theorem dX5_samples_6 : decode cX5_samples 6 = .ok (.getfield 15, 3) := by decide +kernel
theorem dX5_samples_9 : decode cX5_samples 9 = .ok (.if_icmp .ge 23, 3) := by decide +kernel
theorem dX5_samples_12 : decode cX5_samples 12 = .ok (.aload_n 0, 1) := by decide +kernel
theorem dX5_samples_13 : decode cX5_samples 13 = .ok (.getfield 9, 3) := by decide +kernel
theorem dX5_samples_16 : decode cX5_samples 16 = .ok (.iload_n 2, 1) := by decide +kernel
theorem dX5_samples_17 : decode cX5_samples 17 = .ok (.caload, 1) := by decide +kernel
theorem dX5_samples_18 : decode cX5_samples 18 = .ok (.bipush 59, 2) := by decide +kernel
theorem dX5_samples_20 : decode cX5_samples 20 = .ok (.if_icmp .ne 6, 3) := by decide +kernel
theorem dX5_samples_23 : decode cX5_samples 23 = .ok (.iinc 1 1, 3) := by decide +kernel
theorem dX5_samples_26 : decode cX5_samples 26 = .ok (.iinc 2 1, 3) := by decide +kernel
theorem dX5_samples_29 : decode cX5_samples 29 = .ok (.goto (-25), 3) := by decide +kernel
theorem dX5_samples_32 : decode cX5_samples 32 = .ok (.iload_n 1, 1) := by decide +kernel
theorem dX5_samples_33 : decode cX5_samples 33 = .ok (.ireturn, 1) := by decide +kernel
theorem dX5_appendTo_0 : decode cX5_appendTo 0 = .ok (.aload_n 1, 1) := by decide +kernel
theorem dX5_appendTo_1 : decode cX5_appendTo 1 = .ok (.invokevirtual 23, 3) := by decide +kernel
theorem dX5_appendTo_4 : decode cX5_appendTo 4 = .ok (.iconst 0, 1) := by decide +kernel
theorem dX5_appendTo_5 : decode cX5_appendTo 5 = .ok (.istore_n 2, 1) := by decide +kernel
theorem dX5_appendTo_6 : decode cX5_appendTo 6 = .ok (.iload_n 2, 1) := by decide +kernel
theorem dX5_appendTo_7 : decode cX5_appendTo 7 = .ok (.aload_n 0, 1) := by decide +kernel
theorem dX5_appendTo_8 : decode cX5_appendTo 8 = .ok (.getfield 15, 3) := by decide +kernel
theorem dX5_appendTo_11 : decode cX5_appendTo 11 = .ok (.if_icmp .ge 40, 3) := by decide +kernel
theorem dX5_appendTo_14 : decode cX5_appendTo 14 = .ok (.aload_n 0, 1) := by decide +kernel
theorem dX5_appendTo_15 : decode cX5_appendTo 15 = .ok (.getfield 9, 3) := by decide +kernel
theorem dX5_appendTo_18 : decode cX5_appendTo 18 = .ok (.iload_n 2, 1) := by decide +kernel
theorem dX5_appendTo_19 : decode cX5_appendTo 19 = .ok (.caload, 1) := by decide +kernel
theorem dX5_appendTo_20 : decode cX5_appendTo 20 = .ok (.bipush 59, 2) := by decide +kernel
theorem dX5_appendTo_22 : decode cX5_appendTo 22 = .ok (.if_icmp .ne 10, 3) := by decide +kernel
theorem dX5_appendTo_25 : decode cX5_appendTo 25 = .ok (.aload_n 1, 1) := by decide +kernel
theorem dX5_appendTo_26 : decode cX5_appendTo 26 = .ok (.invokevirtual 23, 3) := by decide +kernel
theorem dX5_appendTo_29 : decode cX5_appendTo 29 = .ok (.goto 16, 3) := by decide +kernel
theorem dX5_appendTo_32 : decode cX5_appendTo 32 = .ok (.aload_n 1, 1) := by decide +kernel
theorem dX5_appendTo_33 : decode cX5_appendTo 33 = .ok (.aload_n 0, 1) := by decide +kernel
theorem dX5_appendTo_34 : decode cX5_appendTo 34 = .ok (.getfield 9, 3) := by decide +kernel
theorem dX5_appendTo_37 : decode cX5_appendTo 37 = .ok (.iload_n 2, 1) := by decide +kernel
theorem dX5_appendTo_38 : decode cX5_appendTo 38 = .ok (.caload, 1) := by decide +kernel
theorem dX5_appendTo_39 : decode cX5_appendTo 39 = .ok (.bipush 97, 2) := by decide +kernel
theorem dX5_appendTo_41 : decode cX5_appendTo 41 = .ok (.isub, 1) := by decide +kernel
theorem dX5_appendTo_42 : decode cX5_appendTo 42 = .ok (.invokevirtual 28, 3) := by decide +kernel
theorem dX5_appendTo_45 : decode cX5_appendTo 45 = .ok (.iinc 2 1, 3) := by decide +kernel
theorem dX5_appendTo_48 : decode cX5_appendTo 48 = .ok (.goto (-42), 3) := by decide +kernel
theorem dX5_appendTo_51 : decode cX5_appendTo 51 = .ok (.return_, 1) := by decide +kernel
theorem dX6_init_0 : decode cX6_init 0 = .ok (.aload_n 0, 1) := by decide +kernel
theorem dX6_init_1 : decode cX6_init 1 = .ok (.invokespecial 3, 3) := by decide +kernel
theorem dX6_init_4 : decode cX6_init 4 = .ok (.aload_n 0, 1) := by decide +kernel
theorem dX6_init_5 : decode cX6_init 5 = .ok (.aload_n 1, 1) := by decide +kernel
theorem dX6_init_6 : decode cX6_init 6 = .ok (.putfield 9, 3) := by decide +kernel
theorem dX6_init_9 : decode cX6_init 9 = .ok (.aload_n 0, 1) := by decide +kernel
theorem dX6_init_10 : decode cX6_init 10 = .ok (.bipush 28, 2) := by decide +kernel
theorem dX6_init_12 : decode cX6_init 12 = .ok (.newarray .long, 2) := by decide +kernel
theorem dX6_init_14 : decode cX6_init 14 = .ok (.putfield 15, 3) := by decide +kernel
theorem dX6_init_17 : decode cX6_init 17 = .ok (.aload_n 0, 1) := by decide +kernel
theorem dX6_init_18 : decode cX6_init 18 = .ok (.bipush 28, 2) := by decide +kernel
theorem dX6_init_20 : decode cX6_init 20 = .ok (.newarray .long, 2) := by decide +kernel
theorem dX6_init_22 : decode cX6_init 22 = .ok (.putfield 19, 3) := by decide +kernel
theorem dX6_init_25 : decode cX6_init 25 = .ok (.return_, 1) := by decide +kernel
theorem dX6_read_0 : decode cX6_read 0 = .ok (.aload_n 0, 1) := by decide +kernel
theorem dX6_read_1 : decode cX6_read 1 = .ok (.iload_n 1, 1) := by decide +kernel
theorem dX6_read_2 : decode cX6_read 2 = .ok (.putfield 22, 3) := by decide +kernel
theorem dX6_read_5 : decode cX6_read 5 = .ok (.aload_n 0, 1) := by decide +kernel
theorem dX6_read_6 : decode cX6_read 6 = .ok (.aload_n 0, 1) := by decide +kernel
theorem dX6_read_7 : decode cX6_read 7 = .ok (.getfield 9, 3) := by decide +kernel
theorem dX6_read_10 : decode cX6_read 10 = .ok (.getfield 26, 3) := by decide +kernel
theorem dX6_read_13 : decode cX6_read 13 = .ok (.iload_n 1, 1) := by decide +kernel
theorem dX6_read_14 : decode cX6_read 14 = .ok (.iaload, 1) := by decide +kernel
theorem dX6_read_15 : decode cX6_read 15 = .ok (.putfield 32, 3) := by decide +kernel
theorem dX6_read_18 : decode cX6_read 18 = .ok (.iconst 0, 1) := by decide +kernel
theorem dX6_read_19 : decode cX6_read 19 = .ok (.istore_n 2, 1) := by decide +kernel
theorem dX6_read_20 : decode cX6_read 20 = .ok (.iload_n 2, 1) := by decide +kernel
theorem dX6_read_21 : decode cX6_read 21 = .ok (.aload_n 0, 1) := by decide +kernel
theorem dX6_read_22 : decode cX6_read 22 = .ok (.getfield 32, 3) := by decide +kernel
theorem dX6_read_25 : decode cX6_read 25 = .ok (.if_icmp .ge 44, 3) := by decide +kernel
theorem dX6_read_28 : decode cX6_read 28 = .ok (.iconst 0, 1) := by decide +kernel
theorem dX6_read_29 : decode cX6_read 29 = .ok (.istore_n 3, 1) := by decide +kernel
theorem dX6_read_30 : decode cX6_read 30 = .ok (.iload_n 3, 1) := by decide +kernel
theorem dX6_read_31 : decode cX6_read 31 = .ok (.aload_n 0, 1) := by decide +kernel
theorem dX6_read_32 : decode cX6_read 32 = .ok (.getfield 9, 3) := by decide +kernel
theorem dX6_read_35 : decode cX6_read 35 = .ok (.getfield 35, 3) := by decide +kernel
theorem dX6_read_38 : decode cX6_read 38 = .ok (.if_icmp .ge 25, 3) := by decide +kernel
theorem dX6_read_41 : decode cX6_read 41 = .ok (.aload_n 0, 1) := by decide +kernel
theorem dX6_read_42 : decode cX6_read 42 = .ok (.getfield 15, 3) := by decide +kernel
theorem dX6_read_45 : decode cX6_read 45 = .ok (.iload_n 2, 1) := by decide +kernel
theorem dX6_read_46 : decode cX6_read 46 = .ok (.iconst 4, 1) := by decide +kernel
theorem dX6_read_47 : decode cX6_read 47 = .ok (.imul, 1) := by decide +kernel
theorem dX6_read_48 : decode cX6_read 48 = .ok (.iload_n 3, 1) := by decide +kernel
theorem dX6_read_49 : decode cX6_read 49 = .ok (.iadd, 1) := by decide +kernel
theorem dX6_read_50 : decode cX6_read 50 = .ok (.aload_n 0, 1) := by decide +kernel
theorem dX6_read_51 : decode cX6_read 51 = .ok (.iload_n 2, 1) := by decide +kernel
theorem dX6_read_52 : decode cX6_read 52 = .ok (.iload_n 3, 1) := by decide +kernel
theorem dX6_read_53 : decode cX6_read 53 = .ok (.invokevirtual 38, 3) := by decide +kernel
theorem dX6_read_56 : decode cX6_read 56 = .ok (.lastore, 1) := by decide +kernel
theorem dX6_read_57 : decode cX6_read 57 = .ok (.iinc 3 1, 3) := by decide +kernel
theorem dX6_read_60 : decode cX6_read 60 = .ok (.goto (-30), 3) := by decide +kernel
theorem dX6_read_63 : decode cX6_read 63 = .ok (.iinc 2 1, 3) := by decide +kernel
theorem dX6_read_66 : decode cX6_read 66 = .ok (.goto (-46), 3) := by decide +kernel
theorem dX6_read_69 : decode cX6_read 69 = .ok (.aload_n 0, 1) := by decide +kernel
theorem dX6_read_70 : decode cX6_read 70 = .ok (.getfield 32, 3) := by decide +kernel
theorem dX6_read_73 : decode cX6_read 73 = .ok (.iconst 1, 1) := by decide +kernel
theorem dX6_read_74 : decode cX6_read 74 = .ok (.isub, 1) := by decide +kernel
theorem dX6_read_75 : decode cX6_read 75 = .ok (.istore_n 2, 1) := by decide +kernel
theorem dX6_read_76 : decode cX6_read 76 = .ok (.iload_n 2, 1) := by decide +kernel
theorem dX6_read_77 : decode cX6_read 77 = .ok (.ifCond .lt 44, 3) := by decide +kernel
theorem dX6_read_80 : decode cX6_read 80 = .ok (.iconst 0, 1) := by decide +kernel
theorem dX6_read_81 : decode cX6_read 81 = .ok (.istore_n 3, 1) := by decide +kernel
theorem dX6_read_82 : decode cX6_read 82 = .ok (.iload_n 3, 1) := by decide +kernel
theorem dX6_read_83 : decode cX6_read 83 = .ok (.aload_n 0, 1) := by decide +kernel
theorem dX6_read_84 : decode cX6_read 84 = .ok (.getfield 9, 3) := by decide +kernel
theorem dX6_read_87 : decode cX6_read 87 = .ok (.getfield 35, 3) := by decide +kernel
theorem dX6_read_90 : decode cX6_read 90 = .ok (.if_icmp .ge 25, 3) := by decide +kernel
theorem dX6_read_93 : decode cX6_read 93 = .ok (.aload_n 0, 1) := by decide +kernel
theorem dX6_read_94 : decode cX6_read 94 = .ok (.getfield 19, 3) := by decide +kernel
theorem dX6_read_97 : decode cX6_read 97 = .ok (.iload_n 2, 1) := by decide +kernel
theorem dX6_read_98 : decode cX6_read 98 = .ok (.iconst 4, 1) := by decide +kernel
theorem dX6_read_99 : decode cX6_read 99 = .ok (.imul, 1) := by decide +kernel
theorem dX6_read_100 : decode cX6_read 100 = .ok (.iload_n 3, 1) := by decide +kernel
theorem dX6_read_101 : decode cX6_read 101 = .ok (.iadd, 1) := by decide +kernel
theorem dX6_read_102 : decode cX6_read 102 = .ok (.aload_n 0, 1) := by decide +kernel
theorem dX6_read_103 : decode cX6_read 103 = .ok (.iload_n 2, 1) := by decide +kernel
theorem dX6_read_104 : decode cX6_read 104 = .ok (.iload_n 3, 1) := by decide +kernel
theorem dX6_read_105 : decode cX6_read 105 = .ok (.invokevirtual 42, 3) := by decide +kernel
theorem dX6_read_108 : decode cX6_read 108 = .ok (.lastore, 1) := by decide +kernel
theorem dX6_read_109 : decode cX6_read 109 = .ok (.iinc 3 1, 3) := by decide +kernel
theorem dX6_read_112 : decode cX6_read 112 = .ok (.goto (-30), 3) := by decide +kernel
theorem dX6_read_115 : decode cX6_read 115 = .ok (.iinc 2 (-1), 3) := by decide +kernel
theorem dX6_read_118 : decode cX6_read 118 = .ok (.goto (-42), 3) := by decide +kernel
theorem dX6_read_121 : decode cX6_read 121 = .ok (.aload_n 0, 1) := by decide +kernel
theorem dX6_read_122 : decode cX6_read 122 = .ok (.lconst 0, 1) := by decide +kernel
theorem dX6_read_123 : decode cX6_read 123 = .ok (.putfield 45, 3) := by decide +kernel
theorem dX6_read_126 : decode cX6_read 126 = .ok (.iconst 0, 1) := by decide +kernel
theorem dX6_read_127 : decode cX6_read 127 = .ok (.istore_n 2, 1) := by decide +kernel
theorem dX6_read_128 : decode cX6_read 128 = .ok (.iload_n 2, 1) := by decide +kernel
theorem dX6_read_129 : decode cX6_read 129 = .ok (.aload_n 0, 1) := by decide +kernel
theorem dX6_read_130 : decode cX6_read 130 = .ok (.getfield 9, 3) := by decide +kernel
theorem dX6_read_133 : decode cX6_read 133 = .ok (.getfield 35, 3) := by decide +kernel
theorem dX6_read_136 : decode cX6_read 136 = .ok (.if_icmp .ge 24, 3) := by decide +kernel
theorem dX6_read_139 : decode cX6_read 139 = .ok (.aload_n 0, 1) := by decide +kernel
theorem dX6_read_140 : decode cX6_read 140 = .ok (.dup, 1) := by decide +kernel
theorem dX6_read_141 : decode cX6_read 141 = .ok (.getfield 45, 3) := by decide +kernel
theorem dX6_read_144 : decode cX6_read 144 = .ok (.aload_n 0, 1) := by decide +kernel
theorem dX6_read_145 : decode cX6_read 145 = .ok (.iconst 0, 1) := by decide +kernel
theorem dX6_read_146 : decode cX6_read 146 = .ok (.iload_n 2, 1) := by decide +kernel
theorem dX6_read_147 : decode cX6_read 147 = .ok (.invokevirtual 49, 3) := by decide +kernel
theorem dX6_read_150 : decode cX6_read 150 = .ok (.ladd, 1) := by decide +kernel
theorem dX6_read_151 : decode cX6_read 151 = .ok (.putfield 45, 3) := by decide +kernel
theorem dX6_read_154 : decode cX6_read 154 = .ok (.iinc 2 1, 3) := by decide +kernel
theorem dX6_read_157 : decode cX6_read 157 = .ok (.goto (-29), 3) := by decide +kernel
theorem dX6_read_160 : decode cX6_read 160 = .ok (.return_, 1) := by decide +kernel
end
section
theorem dX6_aheadOf_0 : decode cX6_aheadOf 0 = .ok (.lconst 0, 1) := by decide +kernel
theorem dX6_aheadOf_1 : decode cX6_aheadOf 1 = .ok (.lstore_n 3, 1) := by decide +kernel
theorem dX6_aheadOf_2 : decode cX6_aheadOf 2 = .ok (.iload_n 1, 1) := by decide +kernel
theorem dX6_aheadOf_3 : decode cX6_aheadOf 3 = .ok (.ifCond .ne 16, 3) := by decide +kernel
theorem dX6_aheadOf_6 : decode cX6_aheadOf 6 = .ok (.aload_n 0, 1) := by decide +kernel
theorem dX6_aheadOf_7 : decode cX6_aheadOf 7 = .ok (.getfield 9, 3) := by decide +kernel
theorem dX6_aheadOf_10 : decode cX6_aheadOf 10 = .ok (.iload_n 2, 1) := by decide +kernel
theorem dX6_aheadOf_11 : decode cX6_aheadOf 11 = .ok (.invokevirtual 52, 3) := by decide +kernel
theorem dX6_aheadOf_14 : decode cX6_aheadOf 14 = .ok (.i2l, 1) := by decide +kernel
theorem dX6_aheadOf_15 : decode cX6_aheadOf 15 = .ok (.lstore_n 3, 1) := by decide +kernel
theorem dX6_aheadOf_16 : decode cX6_aheadOf 16 = .ok (.goto 52, 3) := by decide +kernel
theorem dX6_aheadOf_19 : decode cX6_aheadOf 19 = .ok (.iconst 0, 1) := by decide +kernel
theorem dX6_aheadOf_20 : decode cX6_aheadOf 20 = .ok (.istore 5, 2) := by decide +kernel
theorem dX6_aheadOf_22 : decode cX6_aheadOf 22 = .ok (.iload 5, 2) := by decide +kernel
theorem dX6_aheadOf_24 : decode cX6_aheadOf 24 = .ok (.aload_n 0, 1) := by decide +kernel
theorem dX6_aheadOf_25 : decode cX6_aheadOf 25 = .ok (.getfield 9, 3) := by decide +kernel
theorem dX6_aheadOf_28 : decode cX6_aheadOf 28 = .ok (.getfield 35, 3) := by decide +kernel
theorem dX6_aheadOf_31 : decode cX6_aheadOf 31 = .ok (.if_icmp .ge 37, 3) := by decide +kernel
theorem dX6_aheadOf_34 : decode cX6_aheadOf 34 = .ok (.lload_n 3, 1) := by decide +kernel
theorem dX6_aheadOf_35 : decode cX6_aheadOf 35 = .ok (.aload_n 0, 1) := by decide +kernel
theorem dX6_aheadOf_36 : decode cX6_aheadOf 36 = .ok (.getfield 15, 3) := by decide +kernel
theorem dX6_aheadOf_39 : decode cX6_aheadOf 39 = .ok (.iload_n 1, 1) := by decide +kernel
theorem dX6_aheadOf_40 : decode cX6_aheadOf 40 = .ok (.iconst 1, 1) := by decide +kernel
theorem dX6_aheadOf_41 : decode cX6_aheadOf 41 = .ok (.isub, 1) := by decide +kernel
theorem dX6_aheadOf_42 : decode cX6_aheadOf 42 = .ok (.iconst 4, 1) := by decide +kernel
theorem dX6_aheadOf_43 : decode cX6_aheadOf 43 = .ok (.imul, 1) := by decide +kernel
theorem dX6_aheadOf_44 : decode cX6_aheadOf 44 = .ok (.iload 5, 2) := by decide +kernel
theorem dX6_aheadOf_46 : decode cX6_aheadOf 46 = .ok (.iadd, 1) := by decide +kernel
theorem dX6_aheadOf_47 : decode cX6_aheadOf 47 = .ok (.laload, 1) := by decide +kernel
theorem dX6_aheadOf_48 : decode cX6_aheadOf 48 = .ok (.aload_n 0, 1) := by decide +kernel
theorem dX6_aheadOf_49 : decode cX6_aheadOf 49 = .ok (.getfield 9, 3) := by decide +kernel
theorem dX6_aheadOf_52 : decode cX6_aheadOf 52 = .ok (.iload 5, 2) := by decide +kernel
theorem dX6_aheadOf_54 : decode cX6_aheadOf 54 = .ok (.iload_n 2, 1) := by decide +kernel
theorem dX6_aheadOf_55 : decode cX6_aheadOf 55 = .ok (.invokevirtual 56, 3) := by decide +kernel
theorem dX6_aheadOf_58 : decode cX6_aheadOf 58 = .ok (.i2l, 1) := by decide +kernel
theorem dX6_aheadOf_59 : decode cX6_aheadOf 59 = .ok (.lmul, 1) := by decide +kernel
theorem dX6_aheadOf_60 : decode cX6_aheadOf 60 = .ok (.ladd, 1) := by decide +kernel
theorem dX6_aheadOf_61 : decode cX6_aheadOf 61 = .ok (.lstore_n 3, 1) := by decide +kernel
theorem dX6_aheadOf_62 : decode cX6_aheadOf 62 = .ok (.iinc 5 1, 3) := by decide +kernel
theorem dX6_aheadOf_65 : decode cX6_aheadOf 65 = .ok (.goto (-43), 3) := by decide +kernel
theorem dX6_aheadOf_68 : decode cX6_aheadOf 68 = .ok (.lload_n 3, 1) := by decide +kernel
theorem dX6_aheadOf_69 : decode cX6_aheadOf 69 = .ok (.aload_n 0, 1) := by decide +kernel
theorem dX6_aheadOf_70 : decode cX6_aheadOf 70 = .ok (.getfield 9, 3) := by decide +kernel
theorem dX6_aheadOf_73 : decode cX6_aheadOf 73 = .ok (.iload_n 2, 1) := by decide +kernel
theorem dX6_aheadOf_74 : decode cX6_aheadOf 74 = .ok (.aload_n 0, 1) := by decide +kernel
theorem dX6_aheadOf_75 : decode cX6_aheadOf 75 = .ok (.getfield 22, 3) := by decide +kernel
theorem dX6_aheadOf_78 : decode cX6_aheadOf 78 = .ok (.iload_n 1, 1) := by decide +kernel
theorem dX6_aheadOf_79 : decode cX6_aheadOf 79 = .ok (.invokevirtual 60, 3) := by decide +kernel
theorem dX6_aheadOf_82 : decode cX6_aheadOf 82 = .ok (.i2l, 1) := by decide +kernel
theorem dX6_aheadOf_83 : decode cX6_aheadOf 83 = .ok (.lmul, 1) := by decide +kernel
theorem dX6_aheadOf_84 : decode cX6_aheadOf 84 = .ok (.lreturn, 1) := by decide +kernel
theorem dX6_behindOf_0 : decode cX6_behindOf 0 = .ok (.iload_n 1, 1) := by decide +kernel
theorem dX6_behindOf_1 : decode cX6_behindOf 1 = .ok (.aload_n 0, 1) := by decide +kernel
theorem dX6_behindOf_2 : decode cX6_behindOf 2 = .ok (.getfield 32, 3) := by decide +kernel
theorem dX6_behindOf_5 : decode cX6_behindOf 5 = .ok (.iconst 1, 1) := by decide +kernel
theorem dX6_behindOf_6 : decode cX6_behindOf 6 = .ok (.isub, 1) := by decide +kernel
theorem dX6_behindOf_7 : decode cX6_behindOf 7 = .ok (.if_icmp .ne 5, 3) := by decide +kernel
theorem dX6_behindOf_10 : decode cX6_behindOf 10 = .ok (.lconst 1, 1) := by decide +kernel
theorem dX6_behindOf_11 : decode cX6_behindOf 11 = .ok (.lreturn, 1) := by decide +kernel
theorem dX6_behindOf_12 : decode cX6_behindOf 12 = .ok (.lconst 0, 1) := by decide +kernel
theorem dX6_behindOf_13 : decode cX6_behindOf 13 = .ok (.lstore_n 3, 1) := by decide +kernel
theorem dX6_behindOf_14 : decode cX6_behindOf 14 = .ok (.iconst 0, 1) := by decide +kernel
theorem dX6_behindOf_15 : decode cX6_behindOf 15 = .ok (.istore 5, 2) := by decide +kernel
theorem dX6_behindOf_17 : decode cX6_behindOf 17 = .ok (.iload 5, 2) := by decide +kernel
theorem dX6_behindOf_19 : decode cX6_behindOf 19 = .ok (.aload_n 0, 1) := by decide +kernel
theorem dX6_behindOf_20 : decode cX6_behindOf 20 = .ok (.getfield 9, 3) := by decide +kernel
theorem dX6_behindOf_23 : decode cX6_behindOf 23 = .ok (.getfield 35, 3) := by decide +kernel
theorem dX6_behindOf_26 : decode cX6_behindOf 26 = .ok (.if_icmp .ge 20, 3) := by decide +kernel
theorem dX6_behindOf_29 : decode cX6_behindOf 29 = .ok (.lload_n 3, 1) := by decide +kernel
theorem dX6_behindOf_30 : decode cX6_behindOf 30 = .ok (.aload_n 0, 1) := by decide +kernel
theorem dX6_behindOf_31 : decode cX6_behindOf 31 = .ok (.iload_n 1, 1) := by decide +kernel
theorem dX6_behindOf_32 : decode cX6_behindOf 32 = .ok (.iload_n 2, 1) := by decide +kernel
theorem dX6_behindOf_33 : decode cX6_behindOf 33 = .ok (.iload 5, 2) := by decide +kernel
theorem dX6_behindOf_35 : decode cX6_behindOf 35 = .ok (.invokevirtual 64, 3) := by decide +kernel
theorem dX6_behindOf_38 : decode cX6_behindOf 38 = .ok (.ladd, 1) := by decide +kernel
theorem dX6_behindOf_39 : decode cX6_behindOf 39 = .ok (.lstore_n 3, 1) := by decide +kernel
theorem dX6_behindOf_40 : decode cX6_behindOf 40 = .ok (.iinc 5 1, 3) := by decide +kernel
theorem dX6_behindOf_43 : decode cX6_behindOf 43 = .ok (.goto (-26), 3) := by decide +kernel
theorem dX6_behindOf_46 : decode cX6_behindOf 46 = .ok (.lload_n 3, 1) := by decide +kernel
theorem dX6_behindOf_47 : decode cX6_behindOf 47 = .ok (.lreturn, 1) := by decide +kernel
theorem dX6_stepBehind_0 : decode cX6_stepBehind 0 = .ok (.aload_n 0, 1) := by decide +kernel
theorem dX6_stepBehind_1 : decode cX6_stepBehind 1 = .ok (.getfield 19, 3) := by decide +kernel
theorem dX6_stepBehind_4 : decode cX6_stepBehind 4 = .ok (.iload_n 1, 1) := by decide +kernel
theorem dX6_stepBehind_5 : decode cX6_stepBehind 5 = .ok (.iconst 1, 1) := by decide +kernel
theorem dX6_stepBehind_6 : decode cX6_stepBehind 6 = .ok (.iadd, 1) := by decide +kernel
theorem dX6_stepBehind_7 : decode cX6_stepBehind 7 = .ok (.iconst 4, 1) := by decide +kernel
theorem dX6_stepBehind_8 : decode cX6_stepBehind 8 = .ok (.imul, 1) := by decide +kernel
theorem dX6_stepBehind_9 : decode cX6_stepBehind 9 = .ok (.iload_n 3, 1) := by decide +kernel
theorem dX6_stepBehind_10 : decode cX6_stepBehind 10 = .ok (.iadd, 1) := by decide +kernel
theorem dX6_stepBehind_11 : decode cX6_stepBehind 11 = .ok (.laload, 1) := by decide +kernel
theorem dX6_stepBehind_12 : decode cX6_stepBehind 12 = .ok (.aload_n 0, 1) := by decide +kernel
theorem dX6_stepBehind_13 : decode cX6_stepBehind 13 = .ok (.getfield 9, 3) := by decide +kernel
theorem dX6_stepBehind_16 : decode cX6_stepBehind 16 = .ok (.iload_n 3, 1) := by decide +kernel
theorem dX6_stepBehind_17 : decode cX6_stepBehind 17 = .ok (.aload_n 0, 1) := by decide +kernel
theorem dX6_stepBehind_18 : decode cX6_stepBehind 18 = .ok (.getfield 22, 3) := by decide +kernel
theorem dX6_stepBehind_21 : decode cX6_stepBehind 21 = .ok (.iload_n 1, 1) := by decide +kernel
theorem dX6_stepBehind_22 : decode cX6_stepBehind 22 = .ok (.iconst 1, 1) := by decide +kernel
theorem dX6_stepBehind_23 : decode cX6_stepBehind 23 = .ok (.iadd, 1) := by decide +kernel
theorem dX6_stepBehind_24 : decode cX6_stepBehind 24 = .ok (.invokevirtual 60, 3) := by decide +kernel
theorem dX6_stepBehind_27 : decode cX6_stepBehind 27 = .ok (.i2l, 1) := by decide +kernel
theorem dX6_stepBehind_28 : decode cX6_stepBehind 28 = .ok (.lmul, 1) := by decide +kernel
theorem dX6_stepBehind_29 : decode cX6_stepBehind 29 = .ok (.lstore 4, 2) := by decide +kernel
theorem dX6_stepBehind_31 : decode cX6_stepBehind 31 = .ok (.lload 4, 2) := by decide +kernel
theorem dX6_stepBehind_33 : decode cX6_stepBehind 33 = .ok (.aload_n 0, 1) := by decide +kernel
theorem dX6_stepBehind_34 : decode cX6_stepBehind 34 = .ok (.getfield 9, 3) := by decide +kernel
theorem dX6_stepBehind_37 : decode cX6_stepBehind 37 = .ok (.iload_n 2, 1) := by decide +kernel
theorem dX6_stepBehind_38 : decode cX6_stepBehind 38 = .ok (.iload_n 3, 1) := by decide +kernel
theorem dX6_stepBehind_39 : decode cX6_stepBehind 39 = .ok (.invokevirtual 56, 3) := by decide +kernel
theorem dX6_stepBehind_42 : decode cX6_stepBehind 42 = .ok (.i2l, 1) := by decide +kernel
theorem dX6_stepBehind_43 : decode cX6_stepBehind 43 = .ok (.lmul, 1) := by decide +kernel
theorem dX6_stepBehind_44 : decode cX6_stepBehind 44 = .ok (.lreturn, 1) := by decide +kernel
theorem dX6_at_0 : decode cX6_at 0 = .ok (.iload_n 1, 1) := by decide +kernel
theorem dX6_at_1 : decode cX6_at 1 = .ok (.iconst 4, 1) := by decide +kernel
theorem dX6_at_2 : decode cX6_at 2 = .ok (.imul, 1) := by decide +kernel
theorem dX6_at_3 : decode cX6_at 3 = .ok (.iload_n 2, 1) := by decide +kernel
theorem dX6_at_4 : decode cX6_at 4 = .ok (.iadd, 1) := by decide +kernel
theorem dX6_at_5 : decode cX6_at 5 = .ok (.istore_n 3, 1) := by decide +kernel
theorem dX6_at_6 : decode cX6_at 6 = .ok (.aload_n 0, 1) := by decide +kernel
theorem dX6_at_7 : decode cX6_at 7 = .ok (.getfield 15, 3) := by decide +kernel
theorem dX6_at_10 : decode cX6_at 10 = .ok (.iload_n 3, 1) := by decide +kernel
theorem dX6_at_11 : decode cX6_at 11 = .ok (.laload, 1) := by decide +kernel
theorem dX6_at_12 : decode cX6_at 12 = .ok (.aload_n 0, 1) := by decide +kernel
theorem dX6_at_13 : decode cX6_at 13 = .ok (.getfield 19, 3) := by decide +kernel
theorem dX6_at_16 : decode cX6_at 16 = .ok (.iload_n 3, 1) := by decide +kernel
theorem dX6_at_17 : decode cX6_at 17 = .ok (.laload, 1) := by decide +kernel
theorem dX6_at_18 : decode cX6_at 18 = .ok (.lmul, 1) := by decide +kernel
theorem dX6_at_19 : decode cX6_at 19 = .ok (.lreturn, 1) := by decide +kernel
theorem dX6_showing_0 : decode cX6_showing 0 = .ok (.lconst 0, 1) := by decide +kernel
theorem dX6_showing_1 : decode cX6_showing 1 = .ok (.lstore_n 3, 1) := by decide +kernel
theorem dX6_showing_2 : decode cX6_showing 2 = .ok (.iconst 0, 1) := by decide +kernel
theorem dX6_showing_3 : decode cX6_showing 3 = .ok (.istore 5, 2) := by decide +kernel
theorem dX6_showing_5 : decode cX6_showing 5 = .ok (.iload 5, 2) := by decide +kernel
theorem dX6_showing_7 : decode cX6_showing 7 = .ok (.aload_n 0, 1) := by decide +kernel
theorem dX6_showing_8 : decode cX6_showing 8 = .ok (.getfield 32, 3) := by decide +kernel
theorem dX6_showing_11 : decode cX6_showing 11 = .ok (.if_icmp .ge 36, 3) := by decide +kernel
theorem dX6_showing_14 : decode cX6_showing 14 = .ok (.aload_n 0, 1) := by decide +kernel
theorem dX6_showing_15 : decode cX6_showing 15 = .ok (.getfield 9, 3) := by decide +kernel
theorem dX6_showing_18 : decode cX6_showing 18 = .ok (.aload_n 0, 1) := by decide +kernel
theorem dX6_showing_19 : decode cX6_showing 19 = .ok (.getfield 22, 3) := by decide +kernel
theorem dX6_showing_22 : decode cX6_showing 22 = .ok (.iload 5, 2) := by decide +kernel
theorem dX6_showing_24 : decode cX6_showing 24 = .ok (.invokevirtual 68, 3) := by decide +kernel
theorem dX6_showing_27 : decode cX6_showing 27 = .ok (.iload_n 2, 1) := by decide +kernel
theorem dX6_showing_28 : decode cX6_showing 28 = .ok (.if_icmp .ne 13, 3) := by decide +kernel
theorem dX6_showing_31 : decode cX6_showing 31 = .ok (.lload_n 3, 1) := by decide +kernel
theorem dX6_showing_32 : decode cX6_showing 32 = .ok (.aload_n 0, 1) := by decide +kernel
theorem dX6_showing_33 : decode cX6_showing 33 = .ok (.iload 5, 2) := by decide +kernel
theorem dX6_showing_35 : decode cX6_showing 35 = .ok (.iload_n 1, 1) := by decide +kernel
theorem dX6_showing_36 : decode cX6_showing 36 = .ok (.invokevirtual 49, 3) := by decide +kernel
theorem dX6_showing_39 : decode cX6_showing 39 = .ok (.ladd, 1) := by decide +kernel
theorem dX6_showing_40 : decode cX6_showing 40 = .ok (.lstore_n 3, 1) := by decide +kernel
theorem dX6_showing_41 : decode cX6_showing 41 = .ok (.iinc 5 1, 3) := by decide +kernel
theorem dX6_showing_44 : decode cX6_showing 44 = .ok (.goto (-39), 3) := by decide +kernel
theorem dX6_showing_47 : decode cX6_showing 47 = .ok (.lload_n 3, 1) := by decide +kernel
theorem dX6_showing_48 : decode cX6_showing 48 = .ok (.lreturn, 1) := by decide +kernel
theorem dX6_goingOn_0 : decode cX6_goingOn 0 = .ok (.lconst 0, 1) := by decide +kernel
theorem dX6_goingOn_1 : decode cX6_goingOn 1 = .ok (.lstore_n 3, 1) := by decide +kernel
theorem dX6_goingOn_2 : decode cX6_goingOn 2 = .ok (.iconst 0, 1) := by decide +kernel
theorem dX6_goingOn_3 : decode cX6_goingOn 3 = .ok (.istore 5, 2) := by decide +kernel
theorem dX6_goingOn_5 : decode cX6_goingOn 5 = .ok (.iload 5, 2) := by decide +kernel
theorem dX6_goingOn_7 : decode cX6_goingOn 7 = .ok (.aload_n 0, 1) := by decide +kernel
theorem dX6_goingOn_8 : decode cX6_goingOn 8 = .ok (.getfield 32, 3) := by decide +kernel
theorem dX6_goingOn_11 : decode cX6_goingOn 11 = .ok (.iconst 1, 1) := by decide +kernel
theorem dX6_goingOn_12 : decode cX6_goingOn 12 = .ok (.isub, 1) := by decide +kernel
theorem dX6_goingOn_13 : decode cX6_goingOn 13 = .ok (.if_icmp .ge 32, 3) := by decide +kernel
theorem dX6_goingOn_16 : decode cX6_goingOn 16 = .ok (.lload_n 3, 1) := by decide +kernel
theorem dX6_goingOn_17 : decode cX6_goingOn 17 = .ok (.aload_n 0, 1) := by decide +kernel
theorem dX6_goingOn_18 : decode cX6_goingOn 18 = .ok (.getfield 15, 3) := by decide +kernel
theorem dX6_goingOn_21 : decode cX6_goingOn 21 = .ok (.iload 5, 2) := by decide +kernel
theorem dX6_goingOn_23 : decode cX6_goingOn 23 = .ok (.iconst 4, 1) := by decide +kernel
theorem dX6_goingOn_24 : decode cX6_goingOn 24 = .ok (.imul, 1) := by decide +kernel
theorem dX6_goingOn_25 : decode cX6_goingOn 25 = .ok (.iload_n 1, 1) := by decide +kernel
theorem dX6_goingOn_26 : decode cX6_goingOn 26 = .ok (.iadd, 1) := by decide +kernel
theorem dX6_goingOn_27 : decode cX6_goingOn 27 = .ok (.laload, 1) := by decide +kernel
theorem dX6_goingOn_28 : decode cX6_goingOn 28 = .ok (.aload_n 0, 1) := by decide +kernel
theorem dX6_goingOn_29 : decode cX6_goingOn 29 = .ok (.iload 5, 2) := by decide +kernel
theorem dX6_goingOn_31 : decode cX6_goingOn 31 = .ok (.iload_n 1, 1) := by decide +kernel
theorem dX6_goingOn_32 : decode cX6_goingOn 32 = .ok (.iload_n 2, 1) := by decide +kernel
theorem dX6_goingOn_33 : decode cX6_goingOn 33 = .ok (.invokevirtual 64, 3) := by decide +kernel
theorem dX6_goingOn_36 : decode cX6_goingOn 36 = .ok (.lmul, 1) := by decide +kernel
theorem dX6_goingOn_37 : decode cX6_goingOn 37 = .ok (.ladd, 1) := by decide +kernel
theorem dX6_goingOn_38 : decode cX6_goingOn 38 = .ok (.lstore_n 3, 1) := by decide +kernel
theorem dX6_goingOn_39 : decode cX6_goingOn 39 = .ok (.iinc 5 1, 3) := by decide +kernel
theorem dX6_goingOn_42 : decode cX6_goingOn 42 = .ok (.goto (-37), 3) := by decide +kernel
theorem dX6_goingOn_45 : decode cX6_goingOn 45 = .ok (.lload_n 3, 1) := by decide +kernel
theorem dX6_goingOn_46 : decode cX6_goingOn 46 = .ok (.lreturn, 1) := by decide +kernel
theorem dX6_behindLast_0 : decode cX6_behindLast 0 = .ok (.lconst 0, 1) := by decide +kernel
theorem dX6_behindLast_1 : decode cX6_behindLast 1 = .ok (.lstore_n 2, 1) := by decide +kernel
theorem dX6_behindLast_2 : decode cX6_behindLast 2 = .ok (.iconst 0, 1) := by decide +kernel
theorem dX6_behindLast_3 : decode cX6_behindLast 3 = .ok (.istore 4, 2) := by decide +kernel
theorem dX6_behindLast_5 : decode cX6_behindLast 5 = .ok (.iload 4, 2) := by decide +kernel
theorem dX6_behindLast_7 : decode cX6_behindLast 7 = .ok (.aload_n 0, 1) := by decide +kernel
theorem dX6_behindLast_8 : decode cX6_behindLast 8 = .ok (.getfield 9, 3) := by decide +kernel
theorem dX6_behindLast_11 : decode cX6_behindLast 11 = .ok (.getfield 35, 3) := by decide +kernel
theorem dX6_behindLast_14 : decode cX6_behindLast 14 = .ok (.if_icmp .ge 79, 3) := by decide +kernel
theorem dX6_behindLast_17 : decode cX6_behindLast 17 = .ok (.lconst 0, 1) := by decide +kernel
theorem dX6_behindLast_18 : decode cX6_behindLast 18 = .ok (.lstore 5, 2) := by decide +kernel
theorem dX6_behindLast_20 : decode cX6_behindLast 20 = .ok (.iconst 0, 1) := by decide +kernel
theorem dX6_behindLast_21 : decode cX6_behindLast 21 = .ok (.istore 7, 2) := by decide +kernel
theorem dX6_behindLast_23 : decode cX6_behindLast 23 = .ok (.iload 7, 2) := by decide +kernel
theorem dX6_behindLast_25 : decode cX6_behindLast 25 = .ok (.aload_n 0, 1) := by decide +kernel
theorem dX6_behindLast_26 : decode cX6_behindLast 26 = .ok (.getfield 9, 3) := by decide +kernel
theorem dX6_behindLast_29 : decode cX6_behindLast 29 = .ok (.getfield 35, 3) := by decide +kernel
theorem dX6_behindLast_32 : decode cX6_behindLast 32 = .ok (.if_icmp .ge 37, 3) := by decide +kernel
theorem dX6_behindLast_35 : decode cX6_behindLast 35 = .ok (.lload 5, 2) := by decide +kernel
theorem dX6_behindLast_37 : decode cX6_behindLast 37 = .ok (.aload_n 0, 1) := by decide +kernel
theorem dX6_behindLast_38 : decode cX6_behindLast 38 = .ok (.getfield 9, 3) := by decide +kernel
theorem dX6_behindLast_41 : decode cX6_behindLast 41 = .ok (.iload 4, 2) := by decide +kernel
theorem dX6_behindLast_43 : decode cX6_behindLast 43 = .ok (.iload 7, 2) := by decide +kernel
theorem dX6_behindLast_45 : decode cX6_behindLast 45 = .ok (.invokevirtual 56, 3) := by decide +kernel
theorem dX6_behindLast_48 : decode cX6_behindLast 48 = .ok (.aload_n 0, 1) := by decide +kernel
theorem dX6_behindLast_49 : decode cX6_behindLast 49 = .ok (.getfield 9, 3) := by decide +kernel
theorem dX6_behindLast_52 : decode cX6_behindLast 52 = .ok (.iload 7, 2) := by decide +kernel
theorem dX6_behindLast_54 : decode cX6_behindLast 54 = .ok (.iload_n 1, 1) := by decide +kernel
theorem dX6_behindLast_55 : decode cX6_behindLast 55 = .ok (.invokevirtual 71, 3) := by decide +kernel
theorem dX6_behindLast_58 : decode cX6_behindLast 58 = .ok (.imul, 1) := by decide +kernel
theorem dX6_behindLast_59 : decode cX6_behindLast 59 = .ok (.i2l, 1) := by decide +kernel
theorem dX6_behindLast_60 : decode cX6_behindLast 60 = .ok (.ladd, 1) := by decide +kernel
theorem dX6_behindLast_61 : decode cX6_behindLast 61 = .ok (.lstore 5, 2) := by decide +kernel
theorem dX6_behindLast_63 : decode cX6_behindLast 63 = .ok (.iinc 7 1, 3) := by decide +kernel
theorem dX6_behindLast_66 : decode cX6_behindLast 66 = .ok (.goto (-43), 3) := by decide +kernel
theorem dX6_behindLast_69 : decode cX6_behindLast 69 = .ok (.lload_n 2, 1) := by decide +kernel
theorem dX6_behindLast_70 : decode cX6_behindLast 70 = .ok (.aload_n 0, 1) := by decide +kernel
theorem dX6_behindLast_71 : decode cX6_behindLast 71 = .ok (.aload_n 0, 1) := by decide +kernel
theorem dX6_behindLast_72 : decode cX6_behindLast 72 = .ok (.getfield 32, 3) := by decide +kernel
theorem dX6_behindLast_75 : decode cX6_behindLast 75 = .ok (.iconst 1, 1) := by decide +kernel
theorem dX6_behindLast_76 : decode cX6_behindLast 76 = .ok (.isub, 1) := by decide +kernel
theorem dX6_behindLast_77 : decode cX6_behindLast 77 = .ok (.iload 4, 2) := by decide +kernel
theorem dX6_behindLast_79 : decode cX6_behindLast 79 = .ok (.invokevirtual 49, 3) := by decide +kernel
theorem dX6_behindLast_82 : decode cX6_behindLast 82 = .ok (.lload 5, 2) := by decide +kernel
theorem dX6_behindLast_84 : decode cX6_behindLast 84 = .ok (.lmul, 1) := by decide +kernel
theorem dX6_behindLast_85 : decode cX6_behindLast 85 = .ok (.ladd, 1) := by decide +kernel
theorem dX6_behindLast_86 : decode cX6_behindLast 86 = .ok (.lstore_n 2, 1) := by decide +kernel
theorem dX6_behindLast_87 : decode cX6_behindLast 87 = .ok (.iinc 4 1, 3) := by decide +kernel
theorem dX6_behindLast_90 : decode cX6_behindLast 90 = .ok (.goto (-85), 3) := by decide +kernel
theorem dX6_behindLast_93 : decode cX6_behindLast 93 = .ok (.lload_n 2, 1) := by decide +kernel
theorem dX6_behindLast_94 : decode cX6_behindLast 94 = .ok (.lreturn, 1) := by decide +kernel
theorem dX6_likeliestAt_0 : decode cX6_likeliestAt 0 = .ok (.iconst 0, 1) := by decide +kernel
theorem dX6_likeliestAt_1 : decode cX6_likeliestAt 1 = .ok (.istore_n 2, 1) := by decide +kernel
theorem dX6_likeliestAt_2 : decode cX6_likeliestAt 2 = .ok (.iconst 1, 1) := by decide +kernel
theorem dX6_likeliestAt_3 : decode cX6_likeliestAt 3 = .ok (.istore_n 3, 1) := by decide +kernel
theorem dX6_likeliestAt_4 : decode cX6_likeliestAt 4 = .ok (.iload_n 3, 1) := by decide +kernel
theorem dX6_likeliestAt_5 : decode cX6_likeliestAt 5 = .ok (.aload_n 0, 1) := by decide +kernel
theorem dX6_likeliestAt_6 : decode cX6_likeliestAt 6 = .ok (.getfield 9, 3) := by decide +kernel
theorem dX6_likeliestAt_9 : decode cX6_likeliestAt 9 = .ok (.getfield 35, 3) := by decide +kernel
theorem dX6_likeliestAt_12 : decode cX6_likeliestAt 12 = .ok (.if_icmp .ge 27, 3) := by decide +kernel
theorem dX6_likeliestAt_15 : decode cX6_likeliestAt 15 = .ok (.aload_n 0, 1) := by decide +kernel
theorem dX6_likeliestAt_16 : decode cX6_likeliestAt 16 = .ok (.iload_n 1, 1) := by decide +kernel
theorem dX6_likeliestAt_17 : decode cX6_likeliestAt 17 = .ok (.iload_n 3, 1) := by decide +kernel
theorem dX6_likeliestAt_18 : decode cX6_likeliestAt 18 = .ok (.invokevirtual 49, 3) := by decide +kernel
theorem dX6_likeliestAt_21 : decode cX6_likeliestAt 21 = .ok (.aload_n 0, 1) := by decide +kernel
theorem dX6_likeliestAt_22 : decode cX6_likeliestAt 22 = .ok (.iload_n 1, 1) := by decide +kernel
theorem dX6_likeliestAt_23 : decode cX6_likeliestAt 23 = .ok (.iload_n 2, 1) := by decide +kernel
theorem dX6_likeliestAt_24 : decode cX6_likeliestAt 24 = .ok (.invokevirtual 49, 3) := by decide +kernel
theorem dX6_likeliestAt_27 : decode cX6_likeliestAt 27 = .ok (.lcmp, 1) := by decide +kernel
theorem dX6_likeliestAt_28 : decode cX6_likeliestAt 28 = .ok (.ifCond .le 5, 3) := by decide +kernel
theorem dX6_likeliestAt_31 : decode cX6_likeliestAt 31 = .ok (.iload_n 3, 1) := by decide +kernel
theorem dX6_likeliestAt_32 : decode cX6_likeliestAt 32 = .ok (.istore_n 2, 1) := by decide +kernel
theorem dX6_likeliestAt_33 : decode cX6_likeliestAt 33 = .ok (.iinc 3 1, 3) := by decide +kernel
theorem dX6_likeliestAt_36 : decode cX6_likeliestAt 36 = .ok (.goto (-32), 3) := by decide +kernel
theorem dX6_likeliestAt_39 : decode cX6_likeliestAt 39 = .ok (.iload_n 2, 1) := by decide +kernel
theorem dX6_likeliestAt_40 : decode cX6_likeliestAt 40 = .ok (.ireturn, 1) := by decide +kernel
theorem dX6_doubtfulPlaces_0 : decode cX6_doubtfulPlaces 0 = .ok (.iconst 0, 1) := by decide +kernel
theorem dX6_doubtfulPlaces_1 : decode cX6_doubtfulPlaces 1 = .ok (.istore_n 1, 1) := by decide +kernel
theorem dX6_doubtfulPlaces_2 : decode cX6_doubtfulPlaces 2 = .ok (.aload_n 0, 1) := by decide +kernel
theorem dX6_doubtfulPlaces_3 : decode cX6_doubtfulPlaces 3 = .ok (.getfield 45, 3) := by decide +kernel
theorem dX6_doubtfulPlaces_6 : decode cX6_doubtfulPlaces 6 = .ok (.lconst 0, 1) := by decide +kernel
theorem dX6_doubtfulPlaces_7 : decode cX6_doubtfulPlaces 7 = .ok (.lcmp, 1) := by decide +kernel
theorem dX6_doubtfulPlaces_8 : decode cX6_doubtfulPlaces 8 = .ok (.ifCond .le 52, 3) := by decide +kernel
theorem dX6_doubtfulPlaces_11 : decode cX6_doubtfulPlaces 11 = .ok (.iconst 0, 1) := by decide +kernel
theorem dX6_doubtfulPlaces_12 : decode cX6_doubtfulPlaces 12 = .ok (.istore_n 2, 1) := by decide +kernel
theorem dX6_doubtfulPlaces_13 : decode cX6_doubtfulPlaces 13 = .ok (.iload_n 2, 1) := by decide +kernel
theorem dX6_doubtfulPlaces_14 : decode cX6_doubtfulPlaces 14 = .ok (.aload_n 0, 1) := by decide +kernel
theorem dX6_doubtfulPlaces_15 : decode cX6_doubtfulPlaces 15 = .ok (.getfield 32, 3) := by decide +kernel
theorem dX6_doubtfulPlaces_18 : decode cX6_doubtfulPlaces 18 = .ok (.if_icmp .ge 42, 3) := by decide +kernel
theorem dX6_doubtfulPlaces_21 : decode cX6_doubtfulPlaces 21 = .ok (.aload_n 0, 1) := by decide +kernel
theorem dX6_doubtfulPlaces_22 : decode cX6_doubtfulPlaces 22 = .ok (.iload_n 2, 1) := by decide +kernel
theorem dX6_doubtfulPlaces_23 : decode cX6_doubtfulPlaces 23 = .ok (.aload_n 0, 1) := by decide +kernel
theorem dX6_doubtfulPlaces_24 : decode cX6_doubtfulPlaces 24 = .ok (.iload_n 2, 1) := by decide +kernel
theorem dX6_doubtfulPlaces_25 : decode cX6_doubtfulPlaces 25 = .ok (.invokevirtual 74, 3) := by decide +kernel
theorem dX6_doubtfulPlaces_28 : decode cX6_doubtfulPlaces 28 = .ok (.invokevirtual 49, 3) := by decide +kernel
theorem dX6_doubtfulPlaces_31 : decode cX6_doubtfulPlaces 31 = .ok (.aload_n 0, 1) := by decide +kernel
theorem dX6_doubtfulPlaces_32 : decode cX6_doubtfulPlaces 32 = .ok (.getfield 45, 3) := by decide +kernel
theorem dX6_doubtfulPlaces_35 : decode cX6_doubtfulPlaces 35 = .ok (.invokestatic 77, 3) := by decide +kernel
theorem dX6_doubtfulPlaces_38 : decode cX6_doubtfulPlaces 38 = .ok (.aload_n 0, 1) := by decide +kernel
theorem dX6_doubtfulPlaces_39 : decode cX6_doubtfulPlaces 39 = .ok (.getfield 9, 3) := by decide +kernel
theorem dX6_doubtfulPlaces_42 : decode cX6_doubtfulPlaces 42 = .ok (.getfield 81, 3) := by decide +kernel
theorem dX6_doubtfulPlaces_45 : decode cX6_doubtfulPlaces 45 = .ok (.if_icmp .ge 9, 3) := by decide +kernel
theorem dX6_doubtfulPlaces_48 : decode cX6_doubtfulPlaces 48 = .ok (.iload_n 1, 1) := by decide +kernel
theorem dX6_doubtfulPlaces_49 : decode cX6_doubtfulPlaces 49 = .ok (.iconst 1, 1) := by decide +kernel
theorem dX6_doubtfulPlaces_50 : decode cX6_doubtfulPlaces 50 = .ok (.iload_n 2, 1) := by decide +kernel
theorem dX6_doubtfulPlaces_51 : decode cX6_doubtfulPlaces 51 = .ok (.ishl, 1) := by decide +kernel
theorem dX6_doubtfulPlaces_52 : decode cX6_doubtfulPlaces 52 = .ok (.ior, 1) := by decide +kernel
theorem dX6_doubtfulPlaces_53 : decode cX6_doubtfulPlaces 53 = .ok (.istore_n 1, 1) := by decide +kernel
theorem dX6_doubtfulPlaces_54 : decode cX6_doubtfulPlaces 54 = .ok (.iinc 2 1, 3) := by decide +kernel
theorem dX6_doubtfulPlaces_57 : decode cX6_doubtfulPlaces 57 = .ok (.goto (-44), 3) := by decide +kernel
theorem dX6_doubtfulPlaces_60 : decode cX6_doubtfulPlaces 60 = .ok (.iload_n 1, 1) := by decide +kernel
theorem dX6_doubtfulPlaces_61 : decode cX6_doubtfulPlaces 61 = .ok (.ireturn, 1) := by decide +kernel
theorem dX7_init_0 : decode cX7_init 0 = .ok (.aload_n 0, 1) := by decide +kernel
theorem dX7_init_1 : decode cX7_init 1 = .ok (.invokespecial 1, 3) := by decide +kernel
theorem dX7_init_4 : decode cX7_init 4 = .ok (.new 7, 3) := by decide +kernel
theorem dX7_init_7 : decode cX7_init 7 = .ok (.dup, 1) := by decide +kernel
theorem dX7_init_8 : decode cX7_init 8 = .ok (.invokespecial 9, 3) := by decide +kernel
theorem dX7_init_11 : decode cX7_init 11 = .ok (.astore_n 1, 1) := by decide +kernel
theorem dX7_init_12 : decode cX7_init 12 = .ok (.new 10, 3) := by decide +kernel
theorem dX7_init_15 : decode cX7_init 15 = .ok (.dup, 1) := by decide +kernel
theorem dX7_init_16 : decode cX7_init 16 = .ok (.aload_n 1, 1) := by decide +kernel
theorem dX7_init_17 : decode cX7_init 17 = .ok (.invokespecial 12, 3) := by decide +kernel
theorem dX7_init_20 : decode cX7_init 20 = .ok (.astore_n 2, 1) := by decide +kernel
theorem dX7_init_21 : decode cX7_init 21 = .ok (.aload_n 0, 1) := by decide +kernel
theorem dX7_init_22 : decode cX7_init 22 = .ok (.aload_n 1, 1) := by decide +kernel
theorem dX7_init_23 : decode cX7_init 23 = .ok (.putfield 15, 3) := by decide +kernel
theorem dX7_init_26 : decode cX7_init 26 = .ok (.aload_n 0, 1) := by decide +kernel
theorem dX7_init_27 : decode cX7_init 27 = .ok (.new 7, 3) := by decide +kernel
theorem dX7_init_30 : decode cX7_init 30 = .ok (.dup, 1) := by decide +kernel
theorem dX7_init_31 : decode cX7_init 31 = .ok (.invokespecial 9, 3) := by decide +kernel
theorem dX7_init_34 : decode cX7_init 34 = .ok (.putfield 21, 3) := by decide +kernel
theorem dX7_init_37 : decode cX7_init 37 = .ok (.aload_n 0, 1) := by decide +kernel
theorem dX7_init_38 : decode cX7_init 38 = .ok (.new 24, 3) := by decide +kernel
theorem dX7_init_41 : decode cX7_init 41 = .ok (.dup, 1) := by decide +kernel
theorem dX7_init_42 : decode cX7_init 42 = .ok (.invokespecial 26, 3) := by decide +kernel
theorem dX7_init_45 : decode cX7_init 45 = .ok (.putfield 27, 3) := by decide +kernel
theorem dX7_init_48 : decode cX7_init 48 = .ok (.aload_n 0, 1) := by decide +kernel
theorem dX7_init_49 : decode cX7_init 49 = .ok (.new 31, 3) := by decide +kernel
theorem dX7_init_52 : decode cX7_init 52 = .ok (.dup, 1) := by decide +kernel
theorem dX7_init_53 : decode cX7_init 53 = .ok (.invokespecial 33, 3) := by decide +kernel
theorem dX7_init_56 : decode cX7_init 56 = .ok (.putfield 34, 3) := by decide +kernel
theorem dX7_init_59 : decode cX7_init 59 = .ok (.aload_n 0, 1) := by decide +kernel
theorem dX7_init_60 : decode cX7_init 60 = .ok (.aload_n 2, 1) := by decide +kernel
theorem dX7_init_61 : decode cX7_init 61 = .ok (.putfield 38, 3) := by decide +kernel
theorem dX7_init_64 : decode cX7_init 64 = .ok (.aload_n 0, 1) := by decide +kernel
theorem dX7_init_65 : decode cX7_init 65 = .ok (.new 42, 3) := by decide +kernel
theorem dX7_init_68 : decode cX7_init 68 = .ok (.dup, 1) := by decide +kernel
theorem dX7_init_69 : decode cX7_init 69 = .ok (.aload_n 1, 1) := by decide +kernel
theorem dX7_init_70 : decode cX7_init 70 = .ok (.invokespecial 44, 3) := by decide +kernel
theorem dX7_init_73 : decode cX7_init 73 = .ok (.putfield 45, 3) := by decide +kernel
theorem dX7_init_76 : decode cX7_init 76 = .ok (.aload_n 0, 1) := by decide +kernel
theorem dX7_init_77 : decode cX7_init 77 = .ok (.new 49, 3) := by decide +kernel
theorem dX7_init_80 : decode cX7_init 80 = .ok (.dup, 1) := by decide +kernel
theorem dX7_init_81 : decode cX7_init 81 = .ok (.aload_n 1, 1) := by decide +kernel
theorem dX7_init_82 : decode cX7_init 82 = .ok (.invokespecial 51, 3) := by decide +kernel
theorem dX7_init_85 : decode cX7_init 85 = .ok (.putfield 52, 3) := by decide +kernel
theorem dX7_init_88 : decode cX7_init 88 = .ok (.aload_n 0, 1) := by decide +kernel
theorem dX7_init_89 : decode cX7_init 89 = .ok (.new 56, 3) := by decide +kernel
theorem dX7_init_92 : decode cX7_init 92 = .ok (.dup, 1) := by decide +kernel
theorem dX7_init_93 : decode cX7_init 93 = .ok (.aload_n 1, 1) := by decide +kernel
theorem dX7_init_94 : decode cX7_init 94 = .ok (.aload_n 2, 1) := by decide +kernel
theorem dX7_init_95 : decode cX7_init 95 = .ok (.invokespecial 58, 3) := by decide +kernel
theorem dX7_init_98 : decode cX7_init 98 = .ok (.putfield 61, 3) := by decide +kernel
theorem dX7_init_101 : decode cX7_init 101 = .ok (.return_, 1) := by decide +kernel
theorem dX7_setWeight_0 : decode cX7_setWeight 0 = .ok (.iload_n 1, 1) := by decide +kernel
theorem dX7_setWeight_1 : decode cX7_setWeight 1 = .ok (.invokestatic 65, 3) := by decide +kernel
theorem dX7_setWeight_4 : decode cX7_setWeight 4 = .ok (.ifCond .ne 6, 3) := by decide +kernel
theorem dX7_setWeight_7 : decode cX7_setWeight 7 = .ok (.bipush (-2), 2) := by decide +kernel
theorem dX7_setWeight_9 : decode cX7_setWeight 9 = .ok (.ireturn, 1) := by decide +kernel
theorem dX7_setWeight_10 : decode cX7_setWeight 10 = .ok (.aload_n 0, 1) := by decide +kernel
theorem dX7_setWeight_11 : decode cX7_setWeight 11 = .ok (.getfield 15, 3) := by decide +kernel
theorem dX7_setWeight_14 : decode cX7_setWeight 14 = .ok (.iload_n 1, 1) := by decide +kernel
theorem dX7_setWeight_15 : decode cX7_setWeight 15 = .ok (.iload_n 2, 1) := by decide +kernel
theorem dX7_setWeight_16 : decode cX7_setWeight 16 = .ok (.iload_n 3, 1) := by decide +kernel
theorem dX7_setWeight_17 : decode cX7_setWeight 17 = .ok (.invokevirtual 69, 3) := by decide +kernel
theorem dX7_setWeight_20 : decode cX7_setWeight 20 = .ok (.ifCond .ne 5, 3) := by decide +kernel
theorem dX7_setWeight_23 : decode cX7_setWeight 23 = .ok (.iconst (-1), 1) := by decide +kernel
theorem dX7_setWeight_24 : decode cX7_setWeight 24 = .ok (.ireturn, 1) := by decide +kernel
theorem dX7_setWeight_25 : decode cX7_setWeight 25 = .ok (.iload 4, 2) := by decide +kernel
theorem dX7_setWeight_27 : decode cX7_setWeight 27 = .ok (.ifCond .lt 10, 3) := by decide +kernel
theorem dX7_setWeight_30 : decode cX7_setWeight 30 = .ok (.iload 4, 2) := by decide +kernel
theorem dX7_setWeight_32 : decode cX7_setWeight 32 = .ok (.bipush 6, 2) := by decide +kernel
theorem dX7_setWeight_34 : decode cX7_setWeight 34 = .ok (.if_icmp .le 6, 3) := by decide +kernel
theorem dX7_setWeight_37 : decode cX7_setWeight 37 = .ok (.bipush (-2), 2) := by decide +kernel
theorem dX7_setWeight_39 : decode cX7_setWeight 39 = .ok (.ireturn, 1) := by decide +kernel
theorem dX7_setWeight_40 : decode cX7_setWeight 40 = .ok (.iload_n 1, 1) := by decide +kernel
theorem dX7_setWeight_41 : decode cX7_setWeight 41 = .ok (.iload_n 2, 1) := by decide +kernel
theorem dX7_setWeight_42 : decode cX7_setWeight 42 = .ok (.iload_n 3, 1) := by decide +kernel
theorem dX7_setWeight_43 : decode cX7_setWeight 43 = .ok (.invokestatic 73, 3) := by decide +kernel
theorem dX7_setWeight_46 : decode cX7_setWeight 46 = .ok (.istore 5, 2) := by decide +kernel
theorem dX7_setWeight_48 : decode cX7_setWeight 48 = .ok (.aload_n 0, 1) := by decide +kernel
theorem dX7_setWeight_49 : decode cX7_setWeight 49 = .ok (.getfield 15, 3) := by decide +kernel
theorem dX7_setWeight_52 : decode cX7_setWeight 52 = .ok (.getfield 77, 3) := by decide +kernel
theorem dX7_setWeight_55 : decode cX7_setWeight 55 = .ok (.iload 5, 2) := by decide +kernel
theorem dX7_setWeight_57 : decode cX7_setWeight 57 = .ok (.iaload, 1) := by decide +kernel
theorem dX7_setWeight_58 : decode cX7_setWeight 58 = .ok (.istore 6, 2) := by decide +kernel
theorem dX7_setWeight_60 : decode cX7_setWeight 60 = .ok (.iload 6, 2) := by decide +kernel
theorem dX7_setWeight_62 : decode cX7_setWeight 62 = .ok (.iload 4, 2) := by decide +kernel
theorem dX7_setWeight_64 : decode cX7_setWeight 64 = .ok (.if_icmp .ne 6, 3) := by decide +kernel
theorem dX7_setWeight_67 : decode cX7_setWeight 67 = .ok (.bipush (-5), 2) := by decide +kernel
theorem dX7_setWeight_69 : decode cX7_setWeight 69 = .ok (.ireturn, 1) := by decide +kernel
theorem dX7_setWeight_70 : decode cX7_setWeight 70 = .ok (.aload_n 0, 1) := by decide +kernel
theorem dX7_setWeight_71 : decode cX7_setWeight 71 = .ok (.getfield 27, 3) := by decide +kernel
theorem dX7_setWeight_74 : decode cX7_setWeight 74 = .ok (.aload_n 0, 1) := by decide +kernel
theorem dX7_setWeight_75 : decode cX7_setWeight 75 = .ok (.getfield 15, 3) := by decide +kernel
theorem dX7_setWeight_78 : decode cX7_setWeight 78 = .ok (.invokevirtual 81, 3) := by decide +kernel
theorem dX7_setWeight_81 : decode cX7_setWeight 81 = .ok (.aload_n 0, 1) := by decide +kernel
theorem dX7_setWeight_82 : decode cX7_setWeight 82 = .ok (.getfield 15, 3) := by decide +kernel
theorem dX7_setWeight_85 : decode cX7_setWeight 85 = .ok (.getfield 77, 3) := by decide +kernel
theorem dX7_setWeight_88 : decode cX7_setWeight 88 = .ok (.iload 5, 2) := by decide +kernel
theorem dX7_setWeight_90 : decode cX7_setWeight 90 = .ok (.iload 4, 2) := by decide +kernel
theorem dX7_setWeight_92 : decode cX7_setWeight 92 = .ok (.iastore, 1) := by decide +kernel
theorem dX7_setWeight_93 : decode cX7_setWeight 93 = .ok (.iload 6, 2) := by decide +kernel
theorem dX7_setWeight_95 : decode cX7_setWeight 95 = .ok (.ireturn, 1) := by decide +kernel
theorem dX7_addState_0 : decode cX7_addState 0 = .ok (.aload_n 0, 1) := by decide +kernel
theorem dX7_addState_1 : decode cX7_addState 1 = .ok (.getfield 15, 3) := by decide +kernel
theorem dX7_addState_4 : decode cX7_addState 4 = .ok (.getfield 84, 3) := by decide +kernel
theorem dX7_addState_7 : decode cX7_addState 7 = .ok (.iconst 4, 1) := by decide +kernel
theorem dX7_addState_8 : decode cX7_addState 8 = .ok (.if_icmp .ne 6, 3) := by decide +kernel
theorem dX7_addState_11 : decode cX7_addState 11 = .ok (.bipush (-3), 2) := by decide +kernel
theorem dX7_addState_13 : decode cX7_addState 13 = .ok (.ireturn, 1) := by decide +kernel
theorem dX7_addState_14 : decode cX7_addState 14 = .ok (.aload_n 0, 1) := by decide +kernel
theorem dX7_addState_15 : decode cX7_addState 15 = .ok (.getfield 27, 3) := by decide +kernel
theorem dX7_addState_18 : decode cX7_addState 18 = .ok (.aload_n 0, 1) := by decide +kernel
theorem dX7_addState_19 : decode cX7_addState 19 = .ok (.getfield 15, 3) := by decide +kernel
theorem dX7_addState_22 : decode cX7_addState 22 = .ok (.invokevirtual 81, 3) := by decide +kernel
theorem dX7_addState_25 : decode cX7_addState 25 = .ok (.aload_n 0, 1) := by decide +kernel
theorem dX7_addState_26 : decode cX7_addState 26 = .ok (.getfield 15, 3) := by decide +kernel
theorem dX7_addState_29 : decode cX7_addState 29 = .ok (.invokevirtual 88, 3) := by decide +kernel
theorem dX7_addState_32 : decode cX7_addState 32 = .ok (.aload_n 0, 1) := by decide +kernel
theorem dX7_addState_33 : decode cX7_addState 33 = .ok (.getfield 15, 3) := by decide +kernel
theorem dX7_addState_36 : decode cX7_addState 36 = .ok (.getfield 84, 3) := by decide +kernel
theorem dX7_addState_39 : decode cX7_addState 39 = .ok (.iconst 1, 1) := by decide +kernel
theorem dX7_addState_40 : decode cX7_addState 40 = .ok (.isub, 1) := by decide +kernel
theorem dX7_addState_41 : decode cX7_addState 41 = .ok (.ireturn, 1) := by decide +kernel
theorem dX7_split_0 : decode cX7_split 0 = .ok (.aload_n 0, 1) := by decide +kernel
theorem dX7_split_1 : decode cX7_split 1 = .ok (.getfield 15, 3) := by decide +kernel
theorem dX7_split_4 : decode cX7_split 4 = .ok (.iload_n 1, 1) := by decide +kernel
theorem dX7_split_5 : decode cX7_split 5 = .ok (.invokevirtual 91, 3) := by decide +kernel
theorem dX7_split_8 : decode cX7_split 8 = .ok (.ifCond .ne 5, 3) := by decide +kernel
theorem dX7_split_11 : decode cX7_split 11 = .ok (.iconst (-1), 1) := by decide +kernel
theorem dX7_split_12 : decode cX7_split 12 = .ok (.ireturn, 1) := by decide +kernel
theorem dX7_split_13 : decode cX7_split 13 = .ok (.aload_n 0, 1) := by decide +kernel
theorem dX7_split_14 : decode cX7_split 14 = .ok (.getfield 15, 3) := by decide +kernel
theorem dX7_split_17 : decode cX7_split 17 = .ok (.getfield 84, 3) := by decide +kernel
theorem dX7_split_20 : decode cX7_split 20 = .ok (.iconst 4, 1) := by decide +kernel
theorem dX7_split_21 : decode cX7_split 21 = .ok (.if_icmp .ne 6, 3) := by decide +kernel
theorem dX7_split_24 : decode cX7_split 24 = .ok (.bipush (-3), 2) := by decide +kernel
theorem dX7_split_26 : decode cX7_split 26 = .ok (.ireturn, 1) := by decide +kernel
theorem dX7_split_27 : decode cX7_split 27 = .ok (.aload_n 0, 1) := by decide +kernel
theorem dX7_split_28 : decode cX7_split 28 = .ok (.getfield 27, 3) := by decide +kernel
theorem dX7_split_31 : decode cX7_split 31 = .ok (.aload_n 0, 1) := by decide +kernel
theorem dX7_split_32 : decode cX7_split 32 = .ok (.getfield 15, 3) := by decide +kernel
theorem dX7_split_35 : decode cX7_split 35 = .ok (.invokevirtual 81, 3) := by decide +kernel
theorem dX7_split_38 : decode cX7_split 38 = .ok (.aload_n 0, 1) := by decide +kernel
theorem dX7_split_39 : decode cX7_split 39 = .ok (.getfield 15, 3) := by decide +kernel
theorem dX7_split_42 : decode cX7_split 42 = .ok (.iload_n 1, 1) := by decide +kernel
theorem dX7_split_43 : decode cX7_split 43 = .ok (.invokevirtual 94, 3) := by decide +kernel
theorem dX7_split_46 : decode cX7_split 46 = .ok (.aload_n 0, 1) := by decide +kernel
theorem dX7_split_47 : decode cX7_split 47 = .ok (.getfield 15, 3) := by decide +kernel
theorem dX7_split_50 : decode cX7_split 50 = .ok (.getfield 84, 3) := by decide +kernel
theorem dX7_split_53 : decode cX7_split 53 = .ok (.iconst 1, 1) := by decide +kernel
theorem dX7_split_54 : decode cX7_split 54 = .ok (.isub, 1) := by decide +kernel
theorem dX7_split_55 : decode cX7_split 55 = .ok (.ireturn, 1) := by decide +kernel
theorem dX7_join_0 : decode cX7_join 0 = .ok (.aload_n 0, 1) := by decide +kernel
theorem dX7_join_1 : decode cX7_join 1 = .ok (.getfield 15, 3) := by decide +kernel
theorem dX7_join_4 : decode cX7_join 4 = .ok (.iload_n 1, 1) := by decide +kernel
theorem dX7_join_5 : decode cX7_join 5 = .ok (.invokevirtual 91, 3) := by decide +kernel
theorem dX7_join_8 : decode cX7_join 8 = .ok (.ifCond .eq 14, 3) := by decide +kernel
theorem dX7_join_11 : decode cX7_join 11 = .ok (.aload_n 0, 1) := by decide +kernel
theorem dX7_join_12 : decode cX7_join 12 = .ok (.getfield 15, 3) := by decide +kernel
theorem dX7_join_15 : decode cX7_join 15 = .ok (.iload_n 2, 1) := by decide +kernel
theorem dX7_join_16 : decode cX7_join 16 = .ok (.invokevirtual 91, 3) := by decide +kernel
theorem dX7_join_19 : decode cX7_join 19 = .ok (.ifCond .ne 5, 3) := by decide +kernel
theorem dX7_join_22 : decode cX7_join 22 = .ok (.iconst (-1), 1) := by decide +kernel
theorem dX7_join_23 : decode cX7_join 23 = .ok (.ireturn, 1) := by decide +kernel
theorem dX7_join_24 : decode cX7_join 24 = .ok (.iload_n 1, 1) := by decide +kernel
theorem dX7_join_25 : decode cX7_join 25 = .ok (.iload_n 2, 1) := by decide +kernel
theorem dX7_join_26 : decode cX7_join 26 = .ok (.if_icmp .ne 6, 3) := by decide +kernel
theorem dX7_join_29 : decode cX7_join 29 = .ok (.bipush (-2), 2) := by decide +kernel
theorem dX7_join_31 : decode cX7_join 31 = .ok (.ireturn, 1) := by decide +kernel
theorem dX7_join_32 : decode cX7_join 32 = .ok (.aload_n 0, 1) := by decide +kernel
theorem dX7_join_33 : decode cX7_join 33 = .ok (.getfield 27, 3) := by decide +kernel
theorem dX7_join_36 : decode cX7_join 36 = .ok (.aload_n 0, 1) := by decide +kernel
theorem dX7_join_37 : decode cX7_join 37 = .ok (.getfield 15, 3) := by decide +kernel
theorem dX7_join_40 : decode cX7_join 40 = .ok (.invokevirtual 81, 3) := by decide +kernel
theorem dX7_join_43 : decode cX7_join 43 = .ok (.aload_n 0, 1) := by decide +kernel
theorem dX7_join_44 : decode cX7_join 44 = .ok (.getfield 15, 3) := by decide +kernel
theorem dX7_join_47 : decode cX7_join 47 = .ok (.iload_n 1, 1) := by decide +kernel
theorem dX7_join_48 : decode cX7_join 48 = .ok (.iload_n 2, 1) := by decide +kernel
theorem dX7_join_49 : decode cX7_join 49 = .ok (.invokestatic 98, 3) := by decide +kernel
theorem dX7_join_52 : decode cX7_join 52 = .ok (.iload_n 1, 1) := by decide +kernel
theorem dX7_join_53 : decode cX7_join 53 = .ok (.iload_n 2, 1) := by decide +kernel
theorem dX7_join_54 : decode cX7_join 54 = .ok (.invokestatic 104, 3) := by decide +kernel
theorem dX7_join_57 : decode cX7_join 57 = .ok (.invokevirtual 107, 3) := by decide +kernel
theorem dX7_join_60 : decode cX7_join 60 = .ok (.aload_n 0, 1) := by decide +kernel
theorem dX7_join_61 : decode cX7_join 61 = .ok (.getfield 15, 3) := by decide +kernel
theorem dX7_join_64 : decode cX7_join 64 = .ok (.getfield 84, 3) := by decide +kernel
theorem dX7_join_67 : decode cX7_join 67 = .ok (.ireturn, 1) := by decide +kernel
theorem dX7_removeState_0 : decode cX7_removeState 0 = .ok (.aload_n 0, 1) := by decide +kernel
theorem dX7_removeState_1 : decode cX7_removeState 1 = .ok (.getfield 15, 3) := by decide +kernel
theorem dX7_removeState_4 : decode cX7_removeState 4 = .ok (.iload_n 1, 1) := by decide +kernel
theorem dX7_removeState_5 : decode cX7_removeState 5 = .ok (.invokevirtual 91, 3) := by decide +kernel
theorem dX7_removeState_8 : decode cX7_removeState 8 = .ok (.ifCond .ne 5, 3) := by decide +kernel
theorem dX7_removeState_11 : decode cX7_removeState 11 = .ok (.iconst (-1), 1) := by decide +kernel
theorem dX7_removeState_12 : decode cX7_removeState 12 = .ok (.ireturn, 1) := by decide +kernel
theorem dX7_removeState_13 : decode cX7_removeState 13 = .ok (.aload_n 0, 1) := by decide +kernel
theorem dX7_removeState_14 : decode cX7_removeState 14 = .ok (.getfield 15, 3) := by decide +kernel
theorem dX7_removeState_17 : decode cX7_removeState 17 = .ok (.getfield 84, 3) := by decide +kernel
theorem dX7_removeState_20 : decode cX7_removeState 20 = .ok (.iconst 1, 1) := by decide +kernel
theorem dX7_removeState_21 : decode cX7_removeState 21 = .ok (.if_icmp .ne 6, 3) := by decide +kernel
theorem dX7_removeState_24 : decode cX7_removeState 24 = .ok (.bipush (-4), 2) := by decide +kernel
theorem dX7_removeState_26 : decode cX7_removeState 26 = .ok (.ireturn, 1) := by decide +kernel
theorem dX7_removeState_27 : decode cX7_removeState 27 = .ok (.aload_n 0, 1) := by decide +kernel
theorem dX7_removeState_28 : decode cX7_removeState 28 = .ok (.getfield 27, 3) := by decide +kernel
theorem dX7_removeState_31 : decode cX7_removeState 31 = .ok (.aload_n 0, 1) := by decide +kernel
theorem dX7_removeState_32 : decode cX7_removeState 32 = .ok (.getfield 15, 3) := by decide +kernel
theorem dX7_removeState_35 : decode cX7_removeState 35 = .ok (.invokevirtual 81, 3) := by decide +kernel
theorem dX7_removeState_38 : decode cX7_removeState 38 = .ok (.aload_n 0, 1) := by decide +kernel
theorem dX7_removeState_39 : decode cX7_removeState 39 = .ok (.getfield 15, 3) := by decide +kernel
theorem dX7_removeState_42 : decode cX7_removeState 42 = .ok (.iload_n 1, 1) := by decide +kernel
theorem dX7_removeState_43 : decode cX7_removeState 43 = .ok (.invokevirtual 111, 3) := by decide +kernel
theorem dX7_removeState_46 : decode cX7_removeState 46 = .ok (.aload_n 0, 1) := by decide +kernel
theorem dX7_removeState_47 : decode cX7_removeState 47 = .ok (.getfield 15, 3) := by decide +kernel
theorem dX7_removeState_50 : decode cX7_removeState 50 = .ok (.getfield 84, 3) := by decide +kernel
theorem dX7_removeState_53 : decode cX7_removeState 53 = .ok (.ireturn, 1) := by decide +kernel
theorem dX7_setBound_0 : decode cX7_setBound 0 = .ok (.iload_n 1, 1) := by decide +kernel
theorem dX7_setBound_1 : decode cX7_setBound 1 = .ok (.sipush 500, 3) := by decide +kernel
theorem dX7_setBound_4 : decode cX7_setBound 4 = .ok (.if_icmp .lt 10, 3) := by decide +kernel
theorem dX7_setBound_7 : decode cX7_setBound 7 = .ok (.iload_n 1, 1) := by decide +kernel
theorem dX7_setBound_8 : decode cX7_setBound 8 = .ok (.sipush 1000, 3) := by decide +kernel
theorem dX7_setBound_11 : decode cX7_setBound 11 = .ok (.if_icmp .le 6, 3) := by decide +kernel
theorem dX7_setBound_14 : decode cX7_setBound 14 = .ok (.bipush (-2), 2) := by decide +kernel
theorem dX7_setBound_16 : decode cX7_setBound 16 = .ok (.ireturn, 1) := by decide +kernel
theorem dX7_setBound_17 : decode cX7_setBound 17 = .ok (.aload_n 0, 1) := by decide +kernel
theorem dX7_setBound_18 : decode cX7_setBound 18 = .ok (.getfield 15, 3) := by decide +kernel
theorem dX7_setBound_21 : decode cX7_setBound 21 = .ok (.getfield 114, 3) := by decide +kernel
theorem dX7_setBound_24 : decode cX7_setBound 24 = .ok (.istore_n 2, 1) := by decide +kernel
theorem dX7_setBound_25 : decode cX7_setBound 25 = .ok (.iload_n 2, 1) := by decide +kernel
theorem dX7_setBound_26 : decode cX7_setBound 26 = .ok (.iload_n 1, 1) := by decide +kernel
theorem dX7_setBound_27 : decode cX7_setBound 27 = .ok (.if_icmp .ne 6, 3) := by decide +kernel
theorem dX7_setBound_30 : decode cX7_setBound 30 = .ok (.bipush (-5), 2) := by decide +kernel
theorem dX7_setBound_32 : decode cX7_setBound 32 = .ok (.ireturn, 1) := by decide +kernel
theorem dX7_setBound_33 : decode cX7_setBound 33 = .ok (.aload_n 0, 1) := by decide +kernel
theorem dX7_setBound_34 : decode cX7_setBound 34 = .ok (.getfield 27, 3) := by decide +kernel
theorem dX7_setBound_37 : decode cX7_setBound 37 = .ok (.aload_n 0, 1) := by decide +kernel
theorem dX7_setBound_38 : decode cX7_setBound 38 = .ok (.getfield 15, 3) := by decide +kernel
theorem dX7_setBound_41 : decode cX7_setBound 41 = .ok (.invokevirtual 81, 3) := by decide +kernel
theorem dX7_setBound_44 : decode cX7_setBound 44 = .ok (.aload_n 0, 1) := by decide +kernel
theorem dX7_setBound_45 : decode cX7_setBound 45 = .ok (.getfield 15, 3) := by decide +kernel
theorem dX7_setBound_48 : decode cX7_setBound 48 = .ok (.iload_n 1, 1) := by decide +kernel
theorem dX7_setBound_49 : decode cX7_setBound 49 = .ok (.putfield 114, 3) := by decide +kernel
theorem dX7_setBound_52 : decode cX7_setBound 52 = .ok (.iload_n 2, 1) := by decide +kernel
theorem dX7_setBound_53 : decode cX7_setBound 53 = .ok (.ireturn, 1) := by decide +kernel
theorem dX7_addSamples_0 : decode cX7_addSamples 0 = .ok (.aload_n 0, 1) := by decide +kernel
theorem dX7_addSamples_1 : decode cX7_addSamples 1 = .ok (.getfield 34, 3) := by decide +kernel
theorem dX7_addSamples_4 : decode cX7_addSamples 4 = .ok (.invokevirtual 117, 3) := by decide +kernel
theorem dX7_addSamples_7 : decode cX7_addSamples 7 = .ok (.istore_n 1, 1) := by decide +kernel
theorem dX7_addSamples_8 : decode cX7_addSamples 8 = .ok (.iload_n 1, 1) := by decide +kernel
theorem dX7_addSamples_9 : decode cX7_addSamples 9 = .ok (.iconst (-1), 1) := by decide +kernel
theorem dX7_addSamples_10 : decode cX7_addSamples 10 = .ok (.if_icmp .eq 8, 3) := by decide +kernel
theorem dX7_addSamples_13 : decode cX7_addSamples 13 = .ok (.bipush (-100), 2) := by decide +kernel
theorem dX7_addSamples_15 : decode cX7_addSamples 15 = .ok (.iload_n 1, 1) := by decide +kernel
theorem dX7_addSamples_16 : decode cX7_addSamples 16 = .ok (.isub, 1) := by decide +kernel
theorem dX7_addSamples_17 : decode cX7_addSamples 17 = .ok (.ireturn, 1) := by decide +kernel
theorem dX7_addSamples_18 : decode cX7_addSamples 18 = .ok (.aload_n 0, 1) := by decide +kernel
theorem dX7_addSamples_19 : decode cX7_addSamples 19 = .ok (.getfield 34, 3) := by decide +kernel
theorem dX7_addSamples_22 : decode cX7_addSamples 22 = .ok (.invokevirtual 121, 3) := by decide +kernel
theorem dX7_addSamples_25 : decode cX7_addSamples 25 = .ok (.istore_n 2, 1) := by decide +kernel
theorem dX7_addSamples_26 : decode cX7_addSamples 26 = .ok (.aload_n 0, 1) := by decide +kernel
theorem dX7_addSamples_27 : decode cX7_addSamples 27 = .ok (.getfield 15, 3) := by decide +kernel
theorem dX7_addSamples_30 : decode cX7_addSamples 30 = .ok (.getfield 124, 3) := by decide +kernel
theorem dX7_addSamples_33 : decode cX7_addSamples 33 = .ok (.iload_n 2, 1) := by decide +kernel
theorem dX7_addSamples_34 : decode cX7_addSamples 34 = .ok (.iadd, 1) := by decide +kernel
theorem dX7_addSamples_35 : decode cX7_addSamples 35 = .ok (.bipush 6, 2) := by decide +kernel
theorem dX7_addSamples_37 : decode cX7_addSamples 37 = .ok (.if_icmp .le 6, 3) := by decide +kernel
theorem dX7_addSamples_40 : decode cX7_addSamples 40 = .ok (.bipush (-3), 2) := by decide +kernel
theorem dX7_addSamples_42 : decode cX7_addSamples 42 = .ok (.ireturn, 1) := by decide +kernel
theorem dX7_addSamples_43 : decode cX7_addSamples 43 = .ok (.aload_n 0, 1) := by decide +kernel
theorem dX7_addSamples_44 : decode cX7_addSamples 44 = .ok (.getfield 27, 3) := by decide +kernel
theorem dX7_addSamples_47 : decode cX7_addSamples 47 = .ok (.aload_n 0, 1) := by decide +kernel
theorem dX7_addSamples_48 : decode cX7_addSamples 48 = .ok (.getfield 15, 3) := by decide +kernel
theorem dX7_addSamples_51 : decode cX7_addSamples 51 = .ok (.invokevirtual 81, 3) := by decide +kernel
theorem dX7_addSamples_54 : decode cX7_addSamples 54 = .ok (.aload_n 0, 1) := by decide +kernel
theorem dX7_addSamples_55 : decode cX7_addSamples 55 = .ok (.getfield 34, 3) := by decide +kernel
theorem dX7_addSamples_58 : decode cX7_addSamples 58 = .ok (.aload_n 0, 1) := by decide +kernel
theorem dX7_addSamples_59 : decode cX7_addSamples 59 = .ok (.getfield 15, 3) := by decide +kernel
theorem dX7_addSamples_62 : decode cX7_addSamples 62 = .ok (.invokevirtual 126, 3) := by decide +kernel
theorem dX7_addSamples_65 : decode cX7_addSamples 65 = .ok (.iload_n 2, 1) := by decide +kernel
theorem dX7_addSamples_66 : decode cX7_addSamples 66 = .ok (.ireturn, 1) := by decide +kernel
theorem dX7_removeSample_0 : decode cX7_removeSample 0 = .ok (.aload_n 0, 1) := by decide +kernel
theorem dX7_removeSample_1 : decode cX7_removeSample 1 = .ok (.getfield 15, 3) := by decide +kernel
theorem dX7_removeSample_4 : decode cX7_removeSample 4 = .ok (.iload_n 1, 1) := by decide +kernel
theorem dX7_removeSample_5 : decode cX7_removeSample 5 = .ok (.invokevirtual 129, 3) := by decide +kernel
theorem dX7_removeSample_8 : decode cX7_removeSample 8 = .ok (.ifCond .ne 5, 3) := by decide +kernel
theorem dX7_removeSample_11 : decode cX7_removeSample 11 = .ok (.iconst (-1), 1) := by decide +kernel
theorem dX7_removeSample_12 : decode cX7_removeSample 12 = .ok (.ireturn, 1) := by decide +kernel
theorem dX7_removeSample_13 : decode cX7_removeSample 13 = .ok (.aload_n 0, 1) := by decide +kernel
theorem dX7_removeSample_14 : decode cX7_removeSample 14 = .ok (.getfield 27, 3) := by decide +kernel
theorem dX7_removeSample_17 : decode cX7_removeSample 17 = .ok (.aload_n 0, 1) := by decide +kernel
theorem dX7_removeSample_18 : decode cX7_removeSample 18 = .ok (.getfield 15, 3) := by decide +kernel
theorem dX7_removeSample_21 : decode cX7_removeSample 21 = .ok (.invokevirtual 81, 3) := by decide +kernel
theorem dX7_removeSample_24 : decode cX7_removeSample 24 = .ok (.aload_n 0, 1) := by decide +kernel
theorem dX7_removeSample_25 : decode cX7_removeSample 25 = .ok (.getfield 15, 3) := by decide +kernel
theorem dX7_removeSample_28 : decode cX7_removeSample 28 = .ok (.iload_n 1, 1) := by decide +kernel
theorem dX7_removeSample_29 : decode cX7_removeSample 29 = .ok (.invokevirtual 132, 3) := by decide +kernel
theorem dX7_removeSample_32 : decode cX7_removeSample 32 = .ok (.aload_n 0, 1) := by decide +kernel
theorem dX7_removeSample_33 : decode cX7_removeSample 33 = .ok (.getfield 15, 3) := by decide +kernel
theorem dX7_removeSample_36 : decode cX7_removeSample 36 = .ok (.getfield 124, 3) := by decide +kernel
theorem dX7_removeSample_39 : decode cX7_removeSample 39 = .ok (.ireturn, 1) := by decide +kernel
theorem dX7_learn_0 : decode cX7_learn 0 = .ok (.iload_n 1, 1) := by decide +kernel
theorem dX7_learn_1 : decode cX7_learn 1 = .ok (.iconst 1, 1) := by decide +kernel
theorem dX7_learn_2 : decode cX7_learn 2 = .ok (.if_icmp .lt 9, 3) := by decide +kernel
theorem dX7_learn_5 : decode cX7_learn 5 = .ok (.iload_n 1, 1) := by decide +kernel
theorem dX7_learn_6 : decode cX7_learn 6 = .ok (.bipush 20, 2) := by decide +kernel
theorem dX7_learn_8 : decode cX7_learn 8 = .ok (.if_icmp .le 6, 3) := by decide +kernel
theorem dX7_learn_11 : decode cX7_learn 11 = .ok (.bipush (-2), 2) := by decide +kernel
theorem dX7_learn_13 : decode cX7_learn 13 = .ok (.ireturn, 1) := by decide +kernel
theorem dX7_learn_14 : decode cX7_learn 14 = .ok (.iconst 0, 1) := by decide +kernel
theorem dX7_learn_15 : decode cX7_learn 15 = .ok (.istore_n 2, 1) := by decide +kernel
theorem dX7_learn_16 : decode cX7_learn 16 = .ok (.iconst 0, 1) := by decide +kernel
theorem dX7_learn_17 : decode cX7_learn 17 = .ok (.istore_n 3, 1) := by decide +kernel
theorem dX7_learn_18 : decode cX7_learn 18 = .ok (.iload_n 3, 1) := by decide +kernel
theorem dX7_learn_19 : decode cX7_learn 19 = .ok (.iload_n 1, 1) := by decide +kernel
theorem dX7_learn_20 : decode cX7_learn 20 = .ok (.if_icmp .ge 44, 3) := by decide +kernel
theorem dX7_learn_23 : decode cX7_learn 23 = .ok (.aload_n 0, 1) := by decide +kernel
theorem dX7_learn_24 : decode cX7_learn 24 = .ok (.getfield 61, 3) := by decide +kernel
theorem dX7_learn_27 : decode cX7_learn 27 = .ok (.invokevirtual 135, 3) := by decide +kernel
theorem dX7_learn_30 : decode cX7_learn 30 = .ok (.ifCond .eq 34, 3) := by decide +kernel
theorem dX7_learn_33 : decode cX7_learn 33 = .ok (.iload_n 2, 1) := by decide +kernel
theorem dX7_learn_34 : decode cX7_learn 34 = .ok (.ifCond .ne 14, 3) := by decide +kernel
theorem dX7_learn_37 : decode cX7_learn 37 = .ok (.aload_n 0, 1) := by decide +kernel
theorem dX7_learn_38 : decode cX7_learn 38 = .ok (.getfield 27, 3) := by decide +kernel
theorem dX7_learn_41 : decode cX7_learn 41 = .ok (.aload_n 0, 1) := by decide +kernel
theorem dX7_learn_42 : decode cX7_learn 42 = .ok (.getfield 15, 3) := by decide +kernel
theorem dX7_learn_45 : decode cX7_learn 45 = .ok (.invokevirtual 81, 3) := by decide +kernel
theorem dX7_learn_48 : decode cX7_learn 48 = .ok (.aload_n 0, 1) := by decide +kernel
theorem dX7_learn_49 : decode cX7_learn 49 = .ok (.getfield 61, 3) := by decide +kernel
theorem dX7_learn_52 : decode cX7_learn 52 = .ok (.invokevirtual 139, 3) := by decide +kernel
theorem dX7_learn_55 : decode cX7_learn 55 = .ok (.iinc 2 1, 3) := by decide +kernel
theorem dX7_learn_58 : decode cX7_learn 58 = .ok (.iinc 3 1, 3) := by decide +kernel
theorem dX7_learn_61 : decode cX7_learn 61 = .ok (.goto (-43), 3) := by decide +kernel
theorem dX7_learn_64 : decode cX7_learn 64 = .ok (.iload_n 2, 1) := by decide +kernel
theorem dX7_learn_65 : decode cX7_learn 65 = .ok (.ifCond .le 7, 3) := by decide +kernel
theorem dX7_learn_68 : decode cX7_learn 68 = .ok (.iload_n 2, 1) := by decide +kernel
theorem dX7_learn_69 : decode cX7_learn 69 = .ok (.goto 5, 3) := by decide +kernel
theorem dX7_learn_72 : decode cX7_learn 72 = .ok (.bipush (-5), 2) := by decide +kernel
theorem dX7_learn_74 : decode cX7_learn 74 = .ok (.ireturn, 1) := by decide +kernel
theorem dX7_type_0 : decode cX7_type 0 = .ok (.aload_n 0, 1) := by decide +kernel
theorem dX7_type_1 : decode cX7_type 1 = .ok (.getfield 34, 3) := by decide +kernel
theorem dX7_type_4 : decode cX7_type 4 = .ok (.getfield 142, 3) := by decide +kernel
theorem dX7_type_7 : decode cX7_type 7 = .ok (.bipush 60, 2) := by decide +kernel
theorem dX7_type_9 : decode cX7_type 9 = .ok (.if_icmp .ne 6, 3) := by decide +kernel
theorem dX7_type_12 : decode cX7_type 12 = .ok (.bipush (-3), 2) := by decide +kernel
theorem dX7_type_14 : decode cX7_type 14 = .ok (.ireturn, 1) := by decide +kernel
theorem dX7_type_15 : decode cX7_type 15 = .ok (.aload_n 0, 1) := by decide +kernel
theorem dX7_type_16 : decode cX7_type 16 = .ok (.getfield 34, 3) := by decide +kernel
theorem dX7_type_19 : decode cX7_type 19 = .ok (.iload_n 1, 1) := by decide +kernel
theorem dX7_type_20 : decode cX7_type 20 = .ok (.invokevirtual 145, 3) := by decide +kernel
theorem dX7_type_23 : decode cX7_type 23 = .ok (.aload_n 0, 1) := by decide +kernel
theorem dX7_type_24 : decode cX7_type 24 = .ok (.getfield 34, 3) := by decide +kernel
theorem dX7_type_27 : decode cX7_type 27 = .ok (.getfield 142, 3) := by decide +kernel
theorem dX7_type_30 : decode cX7_type 30 = .ok (.ireturn, 1) := by decide +kernel
theorem dX7_clearText_0 : decode cX7_clearText 0 = .ok (.aload_n 0, 1) := by decide +kernel
theorem dX7_clearText_1 : decode cX7_clearText 1 = .ok (.getfield 34, 3) := by decide +kernel
theorem dX7_clearText_4 : decode cX7_clearText 4 = .ok (.getfield 142, 3) := by decide +kernel
theorem dX7_clearText_7 : decode cX7_clearText 7 = .ok (.istore_n 1, 1) := by decide +kernel
theorem dX7_clearText_8 : decode cX7_clearText 8 = .ok (.aload_n 0, 1) := by decide +kernel
theorem dX7_clearText_9 : decode cX7_clearText 9 = .ok (.getfield 34, 3) := by decide +kernel
theorem dX7_clearText_12 : decode cX7_clearText 12 = .ok (.invokevirtual 149, 3) := by decide +kernel
theorem dX7_clearText_15 : decode cX7_clearText 15 = .ok (.iload_n 1, 1) := by decide +kernel
theorem dX7_clearText_16 : decode cX7_clearText 16 = .ok (.ireturn, 1) := by decide +kernel
theorem dX7_undo_0 : decode cX7_undo 0 = .ok (.aload_n 0, 1) := by decide +kernel
theorem dX7_undo_1 : decode cX7_undo 1 = .ok (.getfield 27, 3) := by decide +kernel
theorem dX7_undo_4 : decode cX7_undo 4 = .ok (.getfield 152, 3) := by decide +kernel
theorem dX7_undo_7 : decode cX7_undo 7 = .ok (.ifCond .ne 6, 3) := by decide +kernel
theorem dX7_undo_10 : decode cX7_undo 10 = .ok (.bipush (-5), 2) := by decide +kernel
theorem dX7_undo_12 : decode cX7_undo 12 = .ok (.ireturn, 1) := by decide +kernel
theorem dX7_undo_13 : decode cX7_undo 13 = .ok (.aload_n 0, 1) := by decide +kernel
theorem dX7_undo_14 : decode cX7_undo 14 = .ok (.getfield 27, 3) := by decide +kernel
theorem dX7_undo_17 : decode cX7_undo 17 = .ok (.aload_n 0, 1) := by decide +kernel
theorem dX7_undo_18 : decode cX7_undo 18 = .ok (.getfield 15, 3) := by decide +kernel
theorem dX7_undo_21 : decode cX7_undo 21 = .ok (.invokevirtual 155, 3) := by decide +kernel
theorem dX7_undo_24 : decode cX7_undo 24 = .ok (.aload_n 0, 1) := by decide +kernel
theorem dX7_undo_25 : decode cX7_undo 25 = .ok (.getfield 27, 3) := by decide +kernel
theorem dX7_undo_28 : decode cX7_undo 28 = .ok (.getfield 152, 3) := by decide +kernel
theorem dX7_undo_31 : decode cX7_undo 31 = .ok (.ireturn, 1) := by decide +kernel
theorem dX7_keep_0 : decode cX7_keep 0 = .ok (.aload_n 0, 1) := by decide +kernel
theorem dX7_keep_1 : decode cX7_keep 1 = .ok (.getfield 21, 3) := by decide +kernel
theorem dX7_keep_4 : decode cX7_keep 4 = .ok (.aload_n 0, 1) := by decide +kernel
theorem dX7_keep_5 : decode cX7_keep 5 = .ok (.getfield 15, 3) := by decide +kernel
theorem dX7_keep_8 : decode cX7_keep 8 = .ok (.invokevirtual 158, 3) := by decide +kernel
theorem dX7_keep_11 : decode cX7_keep 11 = .ok (.aload_n 0, 1) := by decide +kernel
theorem dX7_keep_12 : decode cX7_keep 12 = .ok (.iconst 1, 1) := by decide +kernel
theorem dX7_keep_13 : decode cX7_keep 13 = .ok (.putfield 161, 3) := by decide +kernel
theorem dX7_keep_16 : decode cX7_keep 16 = .ok (.aload_n 0, 1) := by decide +kernel
theorem dX7_keep_17 : decode cX7_keep 17 = .ok (.getfield 15, 3) := by decide +kernel
theorem dX7_keep_20 : decode cX7_keep 20 = .ok (.getfield 124, 3) := by decide +kernel
theorem dX7_keep_23 : decode cX7_keep 23 = .ok (.ireturn, 1) := by decide +kernel
theorem dX7_restore_0 : decode cX7_restore 0 = .ok (.aload_n 0, 1) := by decide +kernel
theorem dX7_restore_1 : decode cX7_restore 1 = .ok (.getfield 161, 3) := by decide +kernel
theorem dX7_restore_4 : decode cX7_restore 4 = .ok (.ifCond .ne 6, 3) := by decide +kernel
theorem dX7_restore_7 : decode cX7_restore 7 = .ok (.bipush (-5), 2) := by decide +kernel
theorem dX7_restore_9 : decode cX7_restore 9 = .ok (.ireturn, 1) := by decide +kernel
theorem dX7_restore_10 : decode cX7_restore 10 = .ok (.aload_n 0, 1) := by decide +kernel
theorem dX7_restore_11 : decode cX7_restore 11 = .ok (.getfield 27, 3) := by decide +kernel
theorem dX7_restore_14 : decode cX7_restore 14 = .ok (.aload_n 0, 1) := by decide +kernel
theorem dX7_restore_15 : decode cX7_restore 15 = .ok (.getfield 15, 3) := by decide +kernel
theorem dX7_restore_18 : decode cX7_restore 18 = .ok (.invokevirtual 81, 3) := by decide +kernel
theorem dX7_restore_21 : decode cX7_restore 21 = .ok (.aload_n 0, 1) := by decide +kernel
theorem dX7_restore_22 : decode cX7_restore 22 = .ok (.getfield 15, 3) := by decide +kernel
theorem dX7_restore_25 : decode cX7_restore 25 = .ok (.aload_n 0, 1) := by decide +kernel
theorem dX7_restore_26 : decode cX7_restore 26 = .ok (.getfield 21, 3) := by decide +kernel
theorem dX7_restore_29 : decode cX7_restore 29 = .ok (.invokevirtual 158, 3) := by decide +kernel
theorem dX7_restore_32 : decode cX7_restore 32 = .ok (.aload_n 0, 1) := by decide +kernel
theorem dX7_restore_33 : decode cX7_restore 33 = .ok (.getfield 15, 3) := by decide +kernel
theorem dX7_restore_36 : decode cX7_restore 36 = .ok (.getfield 124, 3) := by decide +kernel
theorem dX7_restore_39 : decode cX7_restore 39 = .ok (.ireturn, 1) := by decide +kernel
theorem dX7_weight_0 : decode cX7_weight 0 = .ok (.iload_n 1, 1) := by decide +kernel
theorem dX7_weight_1 : decode cX7_weight 1 = .ok (.invokestatic 65, 3) := by decide +kernel
theorem dX7_weight_4 : decode cX7_weight 4 = .ok (.ifCond .ne 6, 3) := by decide +kernel
theorem dX7_weight_7 : decode cX7_weight 7 = .ok (.bipush (-2), 2) := by decide +kernel
theorem dX7_weight_9 : decode cX7_weight 9 = .ok (.ireturn, 1) := by decide +kernel
theorem dX7_weight_10 : decode cX7_weight 10 = .ok (.aload_n 0, 1) := by decide +kernel
theorem dX7_weight_11 : decode cX7_weight 11 = .ok (.getfield 15, 3) := by decide +kernel
theorem dX7_weight_14 : decode cX7_weight 14 = .ok (.iload_n 1, 1) := by decide +kernel
theorem dX7_weight_15 : decode cX7_weight 15 = .ok (.iload_n 2, 1) := by decide +kernel
theorem dX7_weight_16 : decode cX7_weight 16 = .ok (.iload_n 3, 1) := by decide +kernel
theorem dX7_weight_17 : decode cX7_weight 17 = .ok (.invokevirtual 69, 3) := by decide +kernel
theorem dX7_weight_20 : decode cX7_weight 20 = .ok (.ifCond .ne 5, 3) := by decide +kernel
theorem dX7_weight_23 : decode cX7_weight 23 = .ok (.iconst (-1), 1) := by decide +kernel
theorem dX7_weight_24 : decode cX7_weight 24 = .ok (.ireturn, 1) := by decide +kernel
theorem dX7_weight_25 : decode cX7_weight 25 = .ok (.iload 4, 2) := by decide +kernel
theorem dX7_weight_27 : decode cX7_weight 27 = .ok (.ifCond .eq 16, 3) := by decide +kernel
theorem dX7_weight_30 : decode cX7_weight 30 = .ok (.aload_n 0, 1) := by decide +kernel
theorem dX7_weight_31 : decode cX7_weight 31 = .ok (.getfield 15, 3) := by decide +kernel
theorem dX7_weight_34 : decode cX7_weight 34 = .ok (.iload_n 1, 1) := by decide +kernel
theorem dX7_weight_35 : decode cX7_weight 35 = .ok (.iload_n 2, 1) := by decide +kernel
theorem dX7_weight_36 : decode cX7_weight 36 = .ok (.iload_n 3, 1) := by decide +kernel
theorem dX7_weight_37 : decode cX7_weight 37 = .ok (.invokevirtual 165, 3) := by decide +kernel
theorem dX7_weight_40 : decode cX7_weight 40 = .ok (.goto 17, 3) := by decide +kernel
theorem dX7_weight_43 : decode cX7_weight 43 = .ok (.aload_n 0, 1) := by decide +kernel
theorem dX7_weight_44 : decode cX7_weight 44 = .ok (.getfield 15, 3) := by decide +kernel
theorem dX7_weight_47 : decode cX7_weight 47 = .ok (.getfield 77, 3) := by decide +kernel
theorem dX7_weight_50 : decode cX7_weight 50 = .ok (.iload_n 1, 1) := by decide +kernel
theorem dX7_weight_51 : decode cX7_weight 51 = .ok (.iload_n 2, 1) := by decide +kernel
theorem dX7_weight_52 : decode cX7_weight 52 = .ok (.iload_n 3, 1) := by decide +kernel
theorem dX7_weight_53 : decode cX7_weight 53 = .ok (.invokestatic 73, 3) := by decide +kernel
theorem dX7_weight_56 : decode cX7_weight 56 = .ok (.iaload, 1) := by decide +kernel
theorem dX7_weight_57 : decode cX7_weight 57 = .ok (.ireturn, 1) := by decide +kernel
theorem dX7_sign_0 : decode cX7_sign 0 = .ok (.aload_n 0, 1) := by decide +kernel
theorem dX7_sign_1 : decode cX7_sign 1 = .ok (.getfield 15, 3) := by decide +kernel
theorem dX7_sign_4 : decode cX7_sign 4 = .ok (.iload_n 1, 1) := by decide +kernel
theorem dX7_sign_5 : decode cX7_sign 5 = .ok (.iload_n 2, 1) := by decide +kernel
theorem dX7_sign_6 : decode cX7_sign 6 = .ok (.invokevirtual 168, 3) := by decide +kernel
theorem dX7_sign_9 : decode cX7_sign 9 = .ok (.ifCond .eq 15, 3) := by decide +kernel
theorem dX7_sign_12 : decode cX7_sign 12 = .ok (.aload_n 0, 1) := by decide +kernel
theorem dX7_sign_13 : decode cX7_sign 13 = .ok (.getfield 15, 3) := by decide +kernel
theorem dX7_sign_16 : decode cX7_sign 16 = .ok (.iload_n 1, 1) := by decide +kernel
theorem dX7_sign_17 : decode cX7_sign 17 = .ok (.iload_n 2, 1) := by decide +kernel
theorem dX7_sign_18 : decode cX7_sign 18 = .ok (.invokevirtual 172, 3) := by decide +kernel
theorem dX7_sign_21 : decode cX7_sign 21 = .ok (.goto 4, 3) := by decide +kernel
theorem dX7_sign_24 : decode cX7_sign 24 = .ok (.iconst (-1), 1) := by decide +kernel
theorem dX7_sign_25 : decode cX7_sign 25 = .ok (.ireturn, 1) := by decide +kernel
theorem dX7_ofSample_0 : decode cX7_ofSample 0 = .ok (.aload_n 0, 1) := by decide +kernel
theorem dX7_ofSample_1 : decode cX7_ofSample 1 = .ok (.getfield 15, 3) := by decide +kernel
theorem dX7_ofSample_4 : decode cX7_ofSample 4 = .ok (.iload_n 1, 1) := by decide +kernel
theorem dX7_ofSample_5 : decode cX7_ofSample 5 = .ok (.invokevirtual 129, 3) := by decide +kernel
theorem dX7_ofSample_8 : decode cX7_ofSample 8 = .ok (.ifCond .ne 7, 3) := by decide +kernel
theorem dX7_ofSample_11 : decode cX7_ofSample 11 = .ok (.ldc2_w 175, 3) := by decide +kernel
theorem dX7_ofSample_14 : decode cX7_ofSample 14 = .ok (.lreturn, 1) := by decide +kernel
theorem dX7_ofSample_15 : decode cX7_ofSample 15 = .ok (.iload_n 2, 1) := by decide +kernel
theorem dX7_ofSample_16 : decode cX7_ofSample 16 = .ok (.tableswitch 77 0 2 #[28, 44, 61], 28) := by decide +kernel
theorem dX7_ofSample_44 : decode cX7_ofSample 44 = .ok (.aload_n 0, 1) := by decide +kernel
theorem dX7_ofSample_45 : decode cX7_ofSample 45 = .ok (.getfield 38, 3) := by decide +kernel
theorem dX7_ofSample_48 : decode cX7_ofSample 48 = .ok (.iload_n 1, 1) := by decide +kernel
theorem dX7_ofSample_49 : decode cX7_ofSample 49 = .ok (.invokevirtual 177, 3) := by decide +kernel
theorem dX7_ofSample_52 : decode cX7_ofSample 52 = .ok (.aload_n 0, 1) := by decide +kernel
theorem dX7_ofSample_53 : decode cX7_ofSample 53 = .ok (.getfield 38, 3) := by decide +kernel
theorem dX7_ofSample_56 : decode cX7_ofSample 56 = .ok (.getfield 180, 3) := by decide +kernel
theorem dX7_ofSample_59 : decode cX7_ofSample 59 = .ok (.lreturn, 1) := by decide +kernel
theorem dX7_ofSample_60 : decode cX7_ofSample 60 = .ok (.aload_n 0, 1) := by decide +kernel
theorem dX7_ofSample_61 : decode cX7_ofSample 61 = .ok (.getfield 52, 3) := by decide +kernel
theorem dX7_ofSample_64 : decode cX7_ofSample 64 = .ok (.iload_n 1, 1) := by decide +kernel
theorem dX7_ofSample_65 : decode cX7_ofSample 65 = .ok (.invokevirtual 184, 3) := by decide +kernel
theorem dX7_ofSample_68 : decode cX7_ofSample 68 = .ok (.aload_n 0, 1) := by decide +kernel
theorem dX7_ofSample_69 : decode cX7_ofSample 69 = .ok (.getfield 52, 3) := by decide +kernel
theorem dX7_ofSample_72 : decode cX7_ofSample 72 = .ok (.getfield 185, 3) := by decide +kernel
theorem dX7_ofSample_75 : decode cX7_ofSample 75 = .ok (.i2l, 1) := by decide +kernel
theorem dX7_ofSample_76 : decode cX7_ofSample 76 = .ok (.lreturn, 1) := by decide +kernel
theorem dX7_ofSample_77 : decode cX7_ofSample 77 = .ok (.aload_n 0, 1) := by decide +kernel
theorem dX7_ofSample_78 : decode cX7_ofSample 78 = .ok (.getfield 45, 3) := by decide +kernel
theorem dX7_ofSample_81 : decode cX7_ofSample 81 = .ok (.iload_n 1, 1) := by decide +kernel
theorem dX7_ofSample_82 : decode cX7_ofSample 82 = .ok (.invokevirtual 186, 3) := by decide +kernel
theorem dX7_ofSample_85 : decode cX7_ofSample 85 = .ok (.aload_n 0, 1) := by decide +kernel
theorem dX7_ofSample_86 : decode cX7_ofSample 86 = .ok (.getfield 45, 3) := by decide +kernel
theorem dX7_ofSample_89 : decode cX7_ofSample 89 = .ok (.getfield 187, 3) := by decide +kernel
theorem dX7_ofSample_92 : decode cX7_ofSample 92 = .ok (.lreturn, 1) := by decide +kernel
theorem dX7_ofSample_93 : decode cX7_ofSample 93 = .ok (.ldc2_w 190, 3) := by decide +kernel
theorem dX7_ofSample_96 : decode cX7_ofSample 96 = .ok (.lreturn, 1) := by decide +kernel
theorem dX7_best_0 : decode cX7_best 0 = .ok (.aload_n 0, 1) := by decide +kernel
theorem dX7_best_1 : decode cX7_best 1 = .ok (.getfield 15, 3) := by decide +kernel
theorem dX7_best_4 : decode cX7_best 4 = .ok (.iload_n 1, 1) := by decide +kernel
theorem dX7_best_5 : decode cX7_best 5 = .ok (.iload_n 2, 1) := by decide +kernel
theorem dX7_best_6 : decode cX7_best 6 = .ok (.invokevirtual 168, 3) := by decide +kernel
theorem dX7_best_9 : decode cX7_best 9 = .ok (.ifCond .ne 5, 3) := by decide +kernel
theorem dX7_best_12 : decode cX7_best 12 = .ok (.iconst (-1), 1) := by decide +kernel
theorem dX7_best_13 : decode cX7_best 13 = .ok (.ireturn, 1) := by decide +kernel
theorem dX7_best_14 : decode cX7_best 14 = .ok (.aload_n 0, 1) := by decide +kernel
theorem dX7_best_15 : decode cX7_best 15 = .ok (.getfield 45, 3) := by decide +kernel
theorem dX7_best_18 : decode cX7_best 18 = .ok (.iload_n 1, 1) := by decide +kernel
theorem dX7_best_19 : decode cX7_best 19 = .ok (.invokevirtual 186, 3) := by decide +kernel
theorem dX7_best_22 : decode cX7_best 22 = .ok (.aload_n 0, 1) := by decide +kernel
theorem dX7_best_23 : decode cX7_best 23 = .ok (.getfield 45, 3) := by decide +kernel
theorem dX7_best_26 : decode cX7_best 26 = .ok (.getfield 187, 3) := by decide +kernel
theorem dX7_best_29 : decode cX7_best 29 = .ok (.lconst 0, 1) := by decide +kernel
theorem dX7_best_30 : decode cX7_best 30 = .ok (.lcmp, 1) := by decide +kernel
theorem dX7_best_31 : decode cX7_best 31 = .ok (.ifCond .le 15, 3) := by decide +kernel
theorem dX7_best_34 : decode cX7_best 34 = .ok (.aload_n 0, 1) := by decide +kernel
theorem dX7_best_35 : decode cX7_best 35 = .ok (.getfield 45, 3) := by decide +kernel
theorem dX7_best_38 : decode cX7_best 38 = .ok (.getfield 192, 3) := by decide +kernel
theorem dX7_best_41 : decode cX7_best 41 = .ok (.iload_n 2, 1) := by decide +kernel
theorem dX7_best_42 : decode cX7_best 42 = .ok (.iaload, 1) := by decide +kernel
theorem dX7_best_43 : decode cX7_best 43 = .ok (.goto 5, 3) := by decide +kernel
theorem dX7_best_46 : decode cX7_best 46 = .ok (.bipush (-5), 2) := by decide +kernel
theorem dX7_best_48 : decode cX7_best 48 = .ok (.ireturn, 1) := by decide +kernel
theorem dX7_share_0 : decode cX7_share 0 = .ok (.aload_n 0, 1) := by decide +kernel
theorem dX7_share_1 : decode cX7_share 1 = .ok (.getfield 15, 3) := by decide +kernel
theorem dX7_share_4 : decode cX7_share 4 = .ok (.iload_n 1, 1) := by decide +kernel
theorem dX7_share_5 : decode cX7_share 5 = .ok (.iload_n 2, 1) := by decide +kernel
theorem dX7_share_6 : decode cX7_share 6 = .ok (.invokevirtual 168, 3) := by decide +kernel
theorem dX7_share_9 : decode cX7_share 9 = .ok (.ifCond .eq 14, 3) := by decide +kernel
theorem dX7_share_12 : decode cX7_share 12 = .ok (.aload_n 0, 1) := by decide +kernel
theorem dX7_share_13 : decode cX7_share 13 = .ok (.getfield 15, 3) := by decide +kernel
theorem dX7_share_16 : decode cX7_share 16 = .ok (.iload_n 3, 1) := by decide +kernel
theorem dX7_share_17 : decode cX7_share 17 = .ok (.invokevirtual 91, 3) := by decide +kernel
theorem dX7_share_20 : decode cX7_share 20 = .ok (.ifCond .ne 5, 3) := by decide +kernel
theorem dX7_share_23 : decode cX7_share 23 = .ok (.iconst (-1), 1) := by decide +kernel
theorem dX7_share_24 : decode cX7_share 24 = .ok (.ireturn, 1) := by decide +kernel
theorem dX7_share_25 : decode cX7_share 25 = .ok (.aload_n 0, 1) := by decide +kernel
theorem dX7_share_26 : decode cX7_share 26 = .ok (.getfield 38, 3) := by decide +kernel
theorem dX7_share_29 : decode cX7_share 29 = .ok (.iload_n 1, 1) := by decide +kernel
theorem dX7_share_30 : decode cX7_share 30 = .ok (.invokevirtual 177, 3) := by decide +kernel
theorem dX7_share_33 : decode cX7_share 33 = .ok (.aload_n 0, 1) := by decide +kernel
theorem dX7_share_34 : decode cX7_share 34 = .ok (.getfield 38, 3) := by decide +kernel
theorem dX7_share_37 : decode cX7_share 37 = .ok (.getfield 180, 3) := by decide +kernel
theorem dX7_share_40 : decode cX7_share 40 = .ok (.lconst 0, 1) := by decide +kernel
theorem dX7_share_41 : decode cX7_share 41 = .ok (.lcmp, 1) := by decide +kernel
theorem dX7_share_42 : decode cX7_share 42 = .ok (.ifCond .le 25, 3) := by decide +kernel
theorem dX7_share_45 : decode cX7_share 45 = .ok (.aload_n 0, 1) := by decide +kernel
theorem dX7_share_46 : decode cX7_share 46 = .ok (.getfield 38, 3) := by decide +kernel
theorem dX7_share_49 : decode cX7_share 49 = .ok (.iload_n 2, 1) := by decide +kernel
theorem dX7_share_50 : decode cX7_share 50 = .ok (.iload_n 3, 1) := by decide +kernel
theorem dX7_share_51 : decode cX7_share 51 = .ok (.invokevirtual 195, 3) := by decide +kernel
theorem dX7_share_54 : decode cX7_share 54 = .ok (.aload_n 0, 1) := by decide +kernel
theorem dX7_share_55 : decode cX7_share 55 = .ok (.getfield 38, 3) := by decide +kernel
theorem dX7_share_58 : decode cX7_share 58 = .ok (.getfield 180, 3) := by decide +kernel
theorem dX7_share_61 : decode cX7_share 61 = .ok (.invokestatic 199, 3) := by decide +kernel
theorem dX7_share_64 : decode cX7_share 64 = .ok (.goto 5, 3) := by decide +kernel
theorem dX7_share_67 : decode cX7_share 67 = .ok (.bipush (-5), 2) := by decide +kernel
theorem dX7_share_69 : decode cX7_share 69 = .ok (.ireturn, 1) := by decide +kernel
theorem dX7_likeliest_0 : decode cX7_likeliest 0 = .ok (.aload_n 0, 1) := by decide +kernel
theorem dX7_likeliest_1 : decode cX7_likeliest 1 = .ok (.getfield 15, 3) := by decide +kernel
theorem dX7_likeliest_4 : decode cX7_likeliest 4 = .ok (.iload_n 1, 1) := by decide +kernel
theorem dX7_likeliest_5 : decode cX7_likeliest 5 = .ok (.iload_n 2, 1) := by decide +kernel
theorem dX7_likeliest_6 : decode cX7_likeliest 6 = .ok (.invokevirtual 168, 3) := by decide +kernel
theorem dX7_likeliest_9 : decode cX7_likeliest 9 = .ok (.ifCond .ne 5, 3) := by decide +kernel
theorem dX7_likeliest_12 : decode cX7_likeliest 12 = .ok (.iconst (-1), 1) := by decide +kernel
theorem dX7_likeliest_13 : decode cX7_likeliest 13 = .ok (.ireturn, 1) := by decide +kernel
theorem dX7_likeliest_14 : decode cX7_likeliest 14 = .ok (.aload_n 0, 1) := by decide +kernel
theorem dX7_likeliest_15 : decode cX7_likeliest 15 = .ok (.getfield 38, 3) := by decide +kernel
theorem dX7_likeliest_18 : decode cX7_likeliest 18 = .ok (.iload_n 1, 1) := by decide +kernel
theorem dX7_likeliest_19 : decode cX7_likeliest 19 = .ok (.invokevirtual 177, 3) := by decide +kernel
theorem dX7_likeliest_22 : decode cX7_likeliest 22 = .ok (.aload_n 0, 1) := by decide +kernel
theorem dX7_likeliest_23 : decode cX7_likeliest 23 = .ok (.getfield 38, 3) := by decide +kernel
theorem dX7_likeliest_26 : decode cX7_likeliest 26 = .ok (.getfield 180, 3) := by decide +kernel
theorem dX7_likeliest_29 : decode cX7_likeliest 29 = .ok (.lconst 0, 1) := by decide +kernel
theorem dX7_likeliest_30 : decode cX7_likeliest 30 = .ok (.lcmp, 1) := by decide +kernel
theorem dX7_likeliest_31 : decode cX7_likeliest 31 = .ok (.ifCond .le 14, 3) := by decide +kernel
theorem dX7_likeliest_34 : decode cX7_likeliest 34 = .ok (.aload_n 0, 1) := by decide +kernel
theorem dX7_likeliest_35 : decode cX7_likeliest 35 = .ok (.getfield 38, 3) := by decide +kernel
theorem dX7_likeliest_38 : decode cX7_likeliest 38 = .ok (.iload_n 2, 1) := by decide +kernel
theorem dX7_likeliest_39 : decode cX7_likeliest 39 = .ok (.invokevirtual 203, 3) := by decide +kernel
theorem dX7_likeliest_42 : decode cX7_likeliest 42 = .ok (.goto 5, 3) := by decide +kernel
theorem dX7_likeliest_45 : decode cX7_likeliest 45 = .ok (.bipush (-5), 2) := by decide +kernel
theorem dX7_likeliest_47 : decode cX7_likeliest 47 = .ok (.ireturn, 1) := by decide +kernel
theorem dX7_doubtful_0 : decode cX7_doubtful 0 = .ok (.aload_n 0, 1) := by decide +kernel
theorem dX7_doubtful_1 : decode cX7_doubtful 1 = .ok (.getfield 15, 3) := by decide +kernel
theorem dX7_doubtful_4 : decode cX7_doubtful 4 = .ok (.iload_n 1, 1) := by decide +kernel
theorem dX7_doubtful_5 : decode cX7_doubtful 5 = .ok (.invokevirtual 129, 3) := by decide +kernel
theorem dX7_doubtful_8 : decode cX7_doubtful 8 = .ok (.ifCond .ne 5, 3) := by decide +kernel
theorem dX7_doubtful_11 : decode cX7_doubtful 11 = .ok (.iconst (-1), 1) := by decide +kernel
theorem dX7_doubtful_12 : decode cX7_doubtful 12 = .ok (.ireturn, 1) := by decide +kernel
theorem dX7_doubtful_13 : decode cX7_doubtful 13 = .ok (.aload_n 0, 1) := by decide +kernel
theorem dX7_doubtful_14 : decode cX7_doubtful 14 = .ok (.getfield 38, 3) := by decide +kernel
theorem dX7_doubtful_17 : decode cX7_doubtful 17 = .ok (.iload_n 1, 1) := by decide +kernel
theorem dX7_doubtful_18 : decode cX7_doubtful 18 = .ok (.invokevirtual 177, 3) := by decide +kernel
theorem dX7_doubtful_21 : decode cX7_doubtful 21 = .ok (.aload_n 0, 1) := by decide +kernel
theorem dX7_doubtful_22 : decode cX7_doubtful 22 = .ok (.getfield 38, 3) := by decide +kernel
theorem dX7_doubtful_25 : decode cX7_doubtful 25 = .ok (.invokevirtual 207, 3) := by decide +kernel
theorem dX7_doubtful_28 : decode cX7_doubtful 28 = .ok (.ireturn, 1) := by decide +kernel
theorem dX7_run_0 : decode cX7_run 0 = .ok (.aload_n 0, 1) := by decide +kernel
theorem dX7_run_1 : decode cX7_run 1 = .ok (.getfield 15, 3) := by decide +kernel
theorem dX7_run_4 : decode cX7_run 4 = .ok (.iload_n 1, 1) := by decide +kernel
theorem dX7_run_5 : decode cX7_run 5 = .ok (.iload_n 3, 1) := by decide +kernel
theorem dX7_run_6 : decode cX7_run 6 = .ok (.invokevirtual 168, 3) := by decide +kernel
theorem dX7_run_9 : decode cX7_run 9 = .ok (.ifCond .ne 5, 3) := by decide +kernel
theorem dX7_run_12 : decode cX7_run 12 = .ok (.iconst (-1), 1) := by decide +kernel
theorem dX7_run_13 : decode cX7_run 13 = .ok (.ireturn, 1) := by decide +kernel
theorem dX7_run_14 : decode cX7_run 14 = .ok (.iload_n 2, 1) := by decide +kernel
theorem dX7_run_15 : decode cX7_run 15 = .ok (.ifCond .ge 6, 3) := by decide +kernel
theorem dX7_run_18 : decode cX7_run 18 = .ok (.bipush (-2), 2) := by decide +kernel
theorem dX7_run_20 : decode cX7_run 20 = .ok (.ireturn, 1) := by decide +kernel
theorem dX7_run_21 : decode cX7_run 21 = .ok (.aload_n 0, 1) := by decide +kernel
theorem dX7_run_22 : decode cX7_run 22 = .ok (.getfield 52, 3) := by decide +kernel
theorem dX7_run_25 : decode cX7_run 25 = .ok (.iload_n 1, 1) := by decide +kernel
theorem dX7_run_26 : decode cX7_run 26 = .ok (.invokevirtual 184, 3) := by decide +kernel
theorem dX7_run_29 : decode cX7_run 29 = .ok (.iload_n 2, 1) := by decide +kernel
theorem dX7_run_30 : decode cX7_run 30 = .ok (.aload_n 0, 1) := by decide +kernel
theorem dX7_run_31 : decode cX7_run 31 = .ok (.getfield 52, 3) := by decide +kernel
theorem dX7_run_34 : decode cX7_run 34 = .ok (.getfield 185, 3) := by decide +kernel
theorem dX7_run_37 : decode cX7_run 37 = .ok (.if_icmp .ge 15, 3) := by decide +kernel
theorem dX7_run_40 : decode cX7_run 40 = .ok (.aload_n 0, 1) := by decide +kernel
theorem dX7_run_41 : decode cX7_run 41 = .ok (.getfield 52, 3) := by decide +kernel
theorem dX7_run_44 : decode cX7_run 44 = .ok (.iload_n 2, 1) := by decide +kernel
theorem dX7_run_45 : decode cX7_run 45 = .ok (.iload_n 3, 1) := by decide +kernel
theorem dX7_run_46 : decode cX7_run 46 = .ok (.invokevirtual 210, 3) := by decide +kernel
theorem dX7_run_49 : decode cX7_run 49 = .ok (.goto 5, 3) := by decide +kernel
theorem dX7_run_52 : decode cX7_run 52 = .ok (.bipush (-5), 2) := by decide +kernel
theorem dX7_run_54 : decode cX7_run 54 = .ok (.ireturn, 1) := by decide +kernel
theorem dX7_next_0 : decode cX7_next 0 = .ok (.aload_n 0, 1) := by decide +kernel
theorem dX7_next_1 : decode cX7_next 1 = .ok (.getfield 15, 3) := by decide +kernel
theorem dX7_next_4 : decode cX7_next 4 = .ok (.iload_n 1, 1) := by decide +kernel
theorem dX7_next_5 : decode cX7_next 5 = .ok (.invokevirtual 129, 3) := by decide +kernel
theorem dX7_next_8 : decode cX7_next 8 = .ok (.ifCond .eq 12, 3) := by decide +kernel
theorem dX7_next_11 : decode cX7_next 11 = .ok (.iload_n 2, 1) := by decide +kernel
theorem dX7_next_12 : decode cX7_next 12 = .ok (.ifCond .lt 8, 3) := by decide +kernel
theorem dX7_next_15 : decode cX7_next 15 = .ok (.iload_n 2, 1) := by decide +kernel
theorem dX7_next_16 : decode cX7_next 16 = .ok (.iconst 3, 1) := by decide +kernel
theorem dX7_next_17 : decode cX7_next 17 = .ok (.if_icmp .lt 5, 3) := by decide +kernel
theorem dX7_next_20 : decode cX7_next 20 = .ok (.iconst (-1), 1) := by decide +kernel
theorem dX7_next_21 : decode cX7_next 21 = .ok (.ireturn, 1) := by decide +kernel
theorem dX7_next_22 : decode cX7_next 22 = .ok (.aload_n 0, 1) := by decide +kernel
theorem dX7_next_23 : decode cX7_next 23 = .ok (.getfield 38, 3) := by decide +kernel
theorem dX7_next_26 : decode cX7_next 26 = .ok (.iload_n 1, 1) := by decide +kernel
theorem dX7_next_27 : decode cX7_next 27 = .ok (.invokevirtual 177, 3) := by decide +kernel
theorem dX7_next_30 : decode cX7_next 30 = .ok (.lconst 0, 1) := by decide +kernel
theorem dX7_next_31 : decode cX7_next 31 = .ok (.lstore_n 3, 1) := by decide +kernel
theorem dX7_next_32 : decode cX7_next 32 = .ok (.iconst 0, 1) := by decide +kernel
theorem dX7_next_33 : decode cX7_next 33 = .ok (.istore 5, 2) := by decide +kernel
theorem dX7_next_35 : decode cX7_next 35 = .ok (.iload 5, 2) := by decide +kernel
theorem dX7_next_37 : decode cX7_next 37 = .ok (.iconst 3, 1) := by decide +kernel
theorem dX7_next_38 : decode cX7_next 38 = .ok (.if_icmp .ge 21, 3) := by decide +kernel
theorem dX7_next_41 : decode cX7_next 41 = .ok (.lload_n 3, 1) := by decide +kernel
theorem dX7_next_42 : decode cX7_next 42 = .ok (.aload_n 0, 1) := by decide +kernel
theorem dX7_next_43 : decode cX7_next 43 = .ok (.getfield 38, 3) := by decide +kernel
theorem dX7_next_46 : decode cX7_next 46 = .ok (.iload 5, 2) := by decide +kernel
theorem dX7_next_48 : decode cX7_next 48 = .ok (.invokevirtual 213, 3) := by decide +kernel
theorem dX7_next_51 : decode cX7_next 51 = .ok (.ladd, 1) := by decide +kernel
theorem dX7_next_52 : decode cX7_next 52 = .ok (.lstore_n 3, 1) := by decide +kernel
theorem dX7_next_53 : decode cX7_next 53 = .ok (.iinc 5 1, 3) := by decide +kernel
theorem dX7_next_56 : decode cX7_next 56 = .ok (.goto (-21), 3) := by decide +kernel
theorem dX7_next_59 : decode cX7_next 59 = .ok (.lload_n 3, 1) := by decide +kernel
theorem dX7_next_60 : decode cX7_next 60 = .ok (.lconst 0, 1) := by decide +kernel
theorem dX7_next_61 : decode cX7_next 61 = .ok (.lcmp, 1) := by decide +kernel
theorem dX7_next_62 : decode cX7_next 62 = .ok (.ifCond .le 18, 3) := by decide +kernel
theorem dX7_next_65 : decode cX7_next 65 = .ok (.aload_n 0, 1) := by decide +kernel
theorem dX7_next_66 : decode cX7_next 66 = .ok (.getfield 38, 3) := by decide +kernel
theorem dX7_next_69 : decode cX7_next 69 = .ok (.iload_n 2, 1) := by decide +kernel
theorem dX7_next_70 : decode cX7_next 70 = .ok (.invokevirtual 213, 3) := by decide +kernel
theorem dX7_next_73 : decode cX7_next 73 = .ok (.lload_n 3, 1) := by decide +kernel
theorem dX7_next_74 : decode cX7_next 74 = .ok (.invokestatic 199, 3) := by decide +kernel
theorem dX7_next_77 : decode cX7_next 77 = .ok (.goto 5, 3) := by decide +kernel
theorem dX7_next_80 : decode cX7_next 80 = .ok (.bipush (-5), 2) := by decide +kernel
theorem dX7_next_82 : decode cX7_next 82 = .ok (.ireturn, 1) := by decide +kernel
theorem dX7_count_0 : decode cX7_count 0 = .ok (.iload_n 1, 1) := by decide +kernel
theorem dX7_count_1 : decode cX7_count 1 = .ok (.tableswitch 114 0 8 #[51, 59, 67, 75, 83, 88, 93, 98, 106], 51) := by decide +kernel
theorem dX7_count_52 : decode cX7_count 52 = .ok (.aload_n 0, 1) := by decide +kernel
theorem dX7_count_53 : decode cX7_count 53 = .ok (.getfield 15, 3) := by decide +kernel
theorem dX7_count_56 : decode cX7_count 56 = .ok (.getfield 84, 3) := by decide +kernel
theorem dX7_count_59 : decode cX7_count 59 = .ok (.ireturn, 1) := by decide +kernel
theorem dX7_count_60 : decode cX7_count 60 = .ok (.aload_n 0, 1) := by decide +kernel
theorem dX7_count_61 : decode cX7_count 61 = .ok (.getfield 15, 3) := by decide +kernel
theorem dX7_count_64 : decode cX7_count 64 = .ok (.getfield 124, 3) := by decide +kernel
theorem dX7_count_67 : decode cX7_count 67 = .ok (.ireturn, 1) := by decide +kernel
theorem dX7_count_68 : decode cX7_count 68 = .ok (.aload_n 0, 1) := by decide +kernel
theorem dX7_count_69 : decode cX7_count 69 = .ok (.getfield 15, 3) := by decide +kernel
theorem dX7_count_72 : decode cX7_count 72 = .ok (.getfield 114, 3) := by decide +kernel
theorem dX7_count_75 : decode cX7_count 75 = .ok (.ireturn, 1) := by decide +kernel
theorem dX7_count_76 : decode cX7_count 76 = .ok (.aload_n 0, 1) := by decide +kernel
theorem dX7_count_77 : decode cX7_count 77 = .ok (.getfield 15, 3) := by decide +kernel
theorem dX7_count_80 : decode cX7_count 80 = .ok (.invokevirtual 217, 3) := by decide +kernel
theorem dX7_count_83 : decode cX7_count 83 = .ok (.ireturn, 1) := by decide +kernel
theorem dX7_count_84 : decode cX7_count 84 = .ok (.aload_n 0, 1) := by decide +kernel
theorem dX7_count_85 : decode cX7_count 85 = .ok (.invokevirtual 220, 3) := by decide +kernel
theorem dX7_count_88 : decode cX7_count 88 = .ok (.ireturn, 1) := by decide +kernel
theorem dX7_count_89 : decode cX7_count 89 = .ok (.aload_n 0, 1) := by decide +kernel
theorem dX7_count_90 : decode cX7_count 90 = .ok (.invokevirtual 223, 3) := by decide +kernel
theorem dX7_count_93 : decode cX7_count 93 = .ok (.ireturn, 1) := by decide +kernel
theorem dX7_count_94 : decode cX7_count 94 = .ok (.aload_n 0, 1) := by decide +kernel
theorem dX7_count_95 : decode cX7_count 95 = .ok (.invokevirtual 226, 3) := by decide +kernel
theorem dX7_count_98 : decode cX7_count 98 = .ok (.ireturn, 1) := by decide +kernel
theorem dX7_count_99 : decode cX7_count 99 = .ok (.aload_n 0, 1) := by decide +kernel
theorem dX7_count_100 : decode cX7_count 100 = .ok (.getfield 27, 3) := by decide +kernel
theorem dX7_count_103 : decode cX7_count 103 = .ok (.getfield 152, 3) := by decide +kernel
theorem dX7_count_106 : decode cX7_count 106 = .ok (.ireturn, 1) := by decide +kernel
theorem dX7_count_107 : decode cX7_count 107 = .ok (.aload_n 0, 1) := by decide +kernel
theorem dX7_count_108 : decode cX7_count 108 = .ok (.getfield 34, 3) := by decide +kernel
theorem dX7_count_111 : decode cX7_count 111 = .ok (.getfield 142, 3) := by decide +kernel
theorem dX7_count_114 : decode cX7_count 114 = .ok (.ireturn, 1) := by decide +kernel
theorem dX7_count_115 : decode cX7_count 115 = .ok (.bipush (-2), 2) := by decide +kernel
theorem dX7_count_117 : decode cX7_count 117 = .ok (.ireturn, 1) := by decide +kernel
theorem dX7_isKind_0 : decode cX7_isKind 0 = .ok (.iload_n 0, 1) := by decide +kernel
theorem dX7_isKind_1 : decode cX7_isKind 1 = .ok (.ifCond .lt 12, 3) := by decide +kernel
theorem dX7_isKind_4 : decode cX7_isKind 4 = .ok (.iload_n 0, 1) := by decide +kernel
theorem dX7_isKind_5 : decode cX7_isKind 5 = .ok (.iconst 2, 1) := by decide +kernel
theorem dX7_isKind_6 : decode cX7_isKind 6 = .ok (.if_icmp .gt 7, 3) := by decide +kernel
theorem dX7_isKind_9 : decode cX7_isKind 9 = .ok (.iconst 1, 1) := by decide +kernel
theorem dX7_isKind_10 : decode cX7_isKind 10 = .ok (.goto 4, 3) := by decide +kernel
theorem dX7_isKind_13 : decode cX7_isKind 13 = .ok (.iconst 0, 1) := by decide +kernel
theorem dX7_isKind_14 : decode cX7_isKind 14 = .ok (.ireturn, 1) := by decide +kernel
theorem dX7_shareOf_0 : decode cX7_shareOf 0 = .ok (.lload_n 2, 1) := by decide +kernel
theorem dX7_shareOf_1 : decode cX7_shareOf 1 = .ok (.lconst 0, 1) := by decide +kernel
theorem dX7_shareOf_2 : decode cX7_shareOf 2 = .ok (.lcmp, 1) := by decide +kernel
theorem dX7_shareOf_3 : decode cX7_shareOf 3 = .ok (.ifCond .gt 5, 3) := by decide +kernel
theorem dX7_shareOf_6 : decode cX7_shareOf 6 = .ok (.iconst 0, 1) := by decide +kernel
theorem dX7_shareOf_7 : decode cX7_shareOf 7 = .ok (.ireturn, 1) := by decide +kernel
theorem dX7_shareOf_8 : decode cX7_shareOf 8 = .ok (.lload_n 0, 1) := by decide +kernel
theorem dX7_shareOf_9 : decode cX7_shareOf 9 = .ok (.lload_n 2, 1) := by decide +kernel
theorem dX7_shareOf_10 : decode cX7_shareOf 10 = .ok (.ldiv, 1) := by decide +kernel
theorem dX7_shareOf_11 : decode cX7_shareOf 11 = .ok (.lstore 4, 2) := by decide +kernel
theorem dX7_shareOf_13 : decode cX7_shareOf 13 = .ok (.lload_n 0, 1) := by decide +kernel
theorem dX7_shareOf_14 : decode cX7_shareOf 14 = .ok (.lload_n 2, 1) := by decide +kernel
theorem dX7_shareOf_15 : decode cX7_shareOf 15 = .ok (.lrem, 1) := by decide +kernel
theorem dX7_shareOf_16 : decode cX7_shareOf 16 = .ok (.lstore 6, 2) := by decide +kernel
theorem dX7_shareOf_18 : decode cX7_shareOf 18 = .ok (.iconst 1, 1) := by decide +kernel
theorem dX7_shareOf_19 : decode cX7_shareOf 19 = .ok (.istore 8, 2) := by decide +kernel
theorem dX7_shareOf_21 : decode cX7_shareOf 21 = .ok (.iload 8, 2) := by decide +kernel
theorem dX7_shareOf_23 : decode cX7_shareOf 23 = .ok (.sipush 1000, 3) := by decide +kernel
theorem dX7_shareOf_26 : decode cX7_shareOf 26 = .ok (.if_icmp .ge 40, 3) := by decide +kernel
theorem dX7_shareOf_29 : decode cX7_shareOf 29 = .ok (.lload 6, 2) := by decide +kernel
theorem dX7_shareOf_31 : decode cX7_shareOf 31 = .ok (.ldc2_w 229, 3) := by decide +kernel
theorem dX7_shareOf_34 : decode cX7_shareOf 34 = .ok (.lmul, 1) := by decide +kernel
theorem dX7_shareOf_35 : decode cX7_shareOf 35 = .ok (.lstore 6, 2) := by decide +kernel
theorem dX7_shareOf_37 : decode cX7_shareOf 37 = .ok (.lload 4, 2) := by decide +kernel
theorem dX7_shareOf_39 : decode cX7_shareOf 39 = .ok (.ldc2_w 229, 3) := by decide +kernel
theorem dX7_shareOf_42 : decode cX7_shareOf 42 = .ok (.lmul, 1) := by decide +kernel
theorem dX7_shareOf_43 : decode cX7_shareOf 43 = .ok (.lload 6, 2) := by decide +kernel
theorem dX7_shareOf_45 : decode cX7_shareOf 45 = .ok (.lload_n 2, 1) := by decide +kernel
theorem dX7_shareOf_46 : decode cX7_shareOf 46 = .ok (.ldiv, 1) := by decide +kernel
theorem dX7_shareOf_47 : decode cX7_shareOf 47 = .ok (.ladd, 1) := by decide +kernel
theorem dX7_shareOf_48 : decode cX7_shareOf 48 = .ok (.lstore 4, 2) := by decide +kernel
theorem dX7_shareOf_50 : decode cX7_shareOf 50 = .ok (.lload 6, 2) := by decide +kernel
theorem dX7_shareOf_52 : decode cX7_shareOf 52 = .ok (.lload_n 2, 1) := by decide +kernel
theorem dX7_shareOf_53 : decode cX7_shareOf 53 = .ok (.lrem, 1) := by decide +kernel
theorem dX7_shareOf_54 : decode cX7_shareOf 54 = .ok (.lstore 6, 2) := by decide +kernel
theorem dX7_shareOf_56 : decode cX7_shareOf 56 = .ok (.iload 8, 2) := by decide +kernel
theorem dX7_shareOf_58 : decode cX7_shareOf 58 = .ok (.bipush 10, 2) := by decide +kernel
theorem dX7_shareOf_60 : decode cX7_shareOf 60 = .ok (.imul, 1) := by decide +kernel
theorem dX7_shareOf_61 : decode cX7_shareOf 61 = .ok (.istore 8, 2) := by decide +kernel
theorem dX7_shareOf_63 : decode cX7_shareOf 63 = .ok (.goto (-42), 3) := by decide +kernel
theorem dX7_shareOf_66 : decode cX7_shareOf 66 = .ok (.lload 4, 2) := by decide +kernel
theorem dX7_shareOf_68 : decode cX7_shareOf 68 = .ok (.l2i, 1) := by decide +kernel
theorem dX7_shareOf_69 : decode cX7_shareOf 69 = .ok (.ireturn, 1) := by decide +kernel
theorem dX7_allDoubtful_0 : decode cX7_allDoubtful 0 = .ok (.iconst 0, 1) := by decide +kernel
theorem dX7_allDoubtful_1 : decode cX7_allDoubtful 1 = .ok (.istore_n 1, 1) := by decide +kernel
theorem dX7_allDoubtful_2 : decode cX7_allDoubtful 2 = .ok (.iconst 0, 1) := by decide +kernel
theorem dX7_allDoubtful_3 : decode cX7_allDoubtful 3 = .ok (.istore_n 2, 1) := by decide +kernel
theorem dX7_allDoubtful_4 : decode cX7_allDoubtful 4 = .ok (.iload_n 2, 1) := by decide +kernel
theorem dX7_allDoubtful_5 : decode cX7_allDoubtful 5 = .ok (.aload_n 0, 1) := by decide +kernel
theorem dX7_allDoubtful_6 : decode cX7_allDoubtful 6 = .ok (.getfield 15, 3) := by decide +kernel
theorem dX7_allDoubtful_9 : decode cX7_allDoubtful 9 = .ok (.getfield 124, 3) := by decide +kernel
theorem dX7_allDoubtful_12 : decode cX7_allDoubtful 12 = .ok (.if_icmp .ge 30, 3) := by decide +kernel
theorem dX7_allDoubtful_15 : decode cX7_allDoubtful 15 = .ok (.aload_n 0, 1) := by decide +kernel
theorem dX7_allDoubtful_16 : decode cX7_allDoubtful 16 = .ok (.getfield 38, 3) := by decide +kernel
theorem dX7_allDoubtful_19 : decode cX7_allDoubtful 19 = .ok (.iload_n 2, 1) := by decide +kernel
theorem dX7_allDoubtful_20 : decode cX7_allDoubtful 20 = .ok (.invokevirtual 177, 3) := by decide +kernel
theorem dX7_allDoubtful_23 : decode cX7_allDoubtful 23 = .ok (.iload_n 1, 1) := by decide +kernel
theorem dX7_allDoubtful_24 : decode cX7_allDoubtful 24 = .ok (.aload_n 0, 1) := by decide +kernel
theorem dX7_allDoubtful_25 : decode cX7_allDoubtful 25 = .ok (.getfield 38, 3) := by decide +kernel
theorem dX7_allDoubtful_28 : decode cX7_allDoubtful 28 = .ok (.invokevirtual 207, 3) := by decide +kernel
theorem dX7_allDoubtful_31 : decode cX7_allDoubtful 31 = .ok (.invokestatic 231, 3) := by decide +kernel
theorem dX7_allDoubtful_34 : decode cX7_allDoubtful 34 = .ok (.iadd, 1) := by decide +kernel
theorem dX7_allDoubtful_35 : decode cX7_allDoubtful 35 = .ok (.istore_n 1, 1) := by decide +kernel
theorem dX7_allDoubtful_36 : decode cX7_allDoubtful 36 = .ok (.iinc 2 1, 3) := by decide +kernel
theorem dX7_allDoubtful_39 : decode cX7_allDoubtful 39 = .ok (.goto (-35), 3) := by decide +kernel
theorem dX7_allDoubtful_42 : decode cX7_allDoubtful 42 = .ok (.iload_n 1, 1) := by decide +kernel
theorem dX7_allDoubtful_43 : decode cX7_allDoubtful 43 = .ok (.ireturn, 1) := by decide +kernel
theorem dX7_samplesWithoutTotal_0 : decode cX7_samplesWithoutTotal 0 = .ok (.iconst 0, 1) := by decide +kernel
theorem dX7_samplesWithoutTotal_1 : decode cX7_samplesWithoutTotal 1 = .ok (.istore_n 1, 1) := by decide +kernel
theorem dX7_samplesWithoutTotal_2 : decode cX7_samplesWithoutTotal 2 = .ok (.iconst 0, 1) := by decide +kernel
theorem dX7_samplesWithoutTotal_3 : decode cX7_samplesWithoutTotal 3 = .ok (.istore_n 2, 1) := by decide +kernel
theorem dX7_samplesWithoutTotal_4 : decode cX7_samplesWithoutTotal 4 = .ok (.iload_n 2, 1) := by decide +kernel
theorem dX7_samplesWithoutTotal_5 : decode cX7_samplesWithoutTotal 5 = .ok (.aload_n 0, 1) := by decide +kernel
theorem dX7_samplesWithoutTotal_6 : decode cX7_samplesWithoutTotal 6 = .ok (.getfield 15, 3) := by decide +kernel
theorem dX7_samplesWithoutTotal_9 : decode cX7_samplesWithoutTotal 9 = .ok (.getfield 124, 3) := by decide +kernel
theorem dX7_samplesWithoutTotal_12 : decode cX7_samplesWithoutTotal 12 = .ok (.if_icmp .ge 32, 3) := by decide +kernel
theorem dX7_samplesWithoutTotal_15 : decode cX7_samplesWithoutTotal 15 = .ok (.aload_n 0, 1) := by decide +kernel
theorem dX7_samplesWithoutTotal_16 : decode cX7_samplesWithoutTotal 16 = .ok (.getfield 38, 3) := by decide +kernel
theorem dX7_samplesWithoutTotal_19 : decode cX7_samplesWithoutTotal 19 = .ok (.iload_n 2, 1) := by decide +kernel
theorem dX7_samplesWithoutTotal_20 : decode cX7_samplesWithoutTotal 20 = .ok (.invokevirtual 177, 3) := by decide +kernel
theorem dX7_samplesWithoutTotal_23 : decode cX7_samplesWithoutTotal 23 = .ok (.aload_n 0, 1) := by decide +kernel
theorem dX7_samplesWithoutTotal_24 : decode cX7_samplesWithoutTotal 24 = .ok (.getfield 38, 3) := by decide +kernel
theorem dX7_samplesWithoutTotal_27 : decode cX7_samplesWithoutTotal 27 = .ok (.getfield 180, 3) := by decide +kernel
theorem dX7_samplesWithoutTotal_30 : decode cX7_samplesWithoutTotal 30 = .ok (.lconst 0, 1) := by decide +kernel
theorem dX7_samplesWithoutTotal_31 : decode cX7_samplesWithoutTotal 31 = .ok (.lcmp, 1) := by decide +kernel
theorem dX7_samplesWithoutTotal_32 : decode cX7_samplesWithoutTotal 32 = .ok (.ifCond .ne 6, 3) := by decide +kernel
theorem dX7_samplesWithoutTotal_35 : decode cX7_samplesWithoutTotal 35 = .ok (.iinc 1 1, 3) := by decide +kernel
theorem dX7_samplesWithoutTotal_38 : decode cX7_samplesWithoutTotal 38 = .ok (.iinc 2 1, 3) := by decide +kernel
theorem dX7_samplesWithoutTotal_41 : decode cX7_samplesWithoutTotal 41 = .ok (.goto (-37), 3) := by decide +kernel
theorem dX7_samplesWithoutTotal_44 : decode cX7_samplesWithoutTotal 44 = .ok (.iload_n 1, 1) := by decide +kernel
theorem dX7_samplesWithoutTotal_45 : decode cX7_samplesWithoutTotal 45 = .ok (.ireturn, 1) := by decide +kernel
theorem dX7_placesOffBest_0 : decode cX7_placesOffBest 0 = .ok (.iconst 0, 1) := by decide +kernel
theorem dX7_placesOffBest_1 : decode cX7_placesOffBest 1 = .ok (.istore_n 1, 1) := by decide +kernel
theorem dX7_placesOffBest_2 : decode cX7_placesOffBest 2 = .ok (.iconst 0, 1) := by decide +kernel
theorem dX7_placesOffBest_3 : decode cX7_placesOffBest 3 = .ok (.istore_n 2, 1) := by decide +kernel
theorem dX7_placesOffBest_4 : decode cX7_placesOffBest 4 = .ok (.iload_n 2, 1) := by decide +kernel
theorem dX7_placesOffBest_5 : decode cX7_placesOffBest 5 = .ok (.aload_n 0, 1) := by decide +kernel
theorem dX7_placesOffBest_6 : decode cX7_placesOffBest 6 = .ok (.getfield 15, 3) := by decide +kernel
theorem dX7_placesOffBest_9 : decode cX7_placesOffBest 9 = .ok (.getfield 124, 3) := by decide +kernel
theorem dX7_placesOffBest_12 : decode cX7_placesOffBest 12 = .ok (.if_icmp .ge 53, 3) := by decide +kernel
theorem dX7_placesOffBest_15 : decode cX7_placesOffBest 15 = .ok (.aload_n 0, 1) := by decide +kernel
theorem dX7_placesOffBest_16 : decode cX7_placesOffBest 16 = .ok (.getfield 45, 3) := by decide +kernel
theorem dX7_placesOffBest_19 : decode cX7_placesOffBest 19 = .ok (.iload_n 2, 1) := by decide +kernel
theorem dX7_placesOffBest_20 : decode cX7_placesOffBest 20 = .ok (.invokevirtual 186, 3) := by decide +kernel
theorem dX7_placesOffBest_23 : decode cX7_placesOffBest 23 = .ok (.aload_n 0, 1) := by decide +kernel
theorem dX7_placesOffBest_24 : decode cX7_placesOffBest 24 = .ok (.getfield 45, 3) := by decide +kernel
theorem dX7_placesOffBest_27 : decode cX7_placesOffBest 27 = .ok (.getfield 187, 3) := by decide +kernel
theorem dX7_placesOffBest_30 : decode cX7_placesOffBest 30 = .ok (.lconst 0, 1) := by decide +kernel
theorem dX7_placesOffBest_31 : decode cX7_placesOffBest 31 = .ok (.lcmp, 1) := by decide +kernel
theorem dX7_placesOffBest_32 : decode cX7_placesOffBest 32 = .ok (.ifCond .le 27, 3) := by decide +kernel
theorem dX7_placesOffBest_35 : decode cX7_placesOffBest 35 = .ok (.aload_n 0, 1) := by decide +kernel
theorem dX7_placesOffBest_36 : decode cX7_placesOffBest 36 = .ok (.getfield 38, 3) := by decide +kernel
theorem dX7_placesOffBest_39 : decode cX7_placesOffBest 39 = .ok (.iload_n 2, 1) := by decide +kernel
theorem dX7_placesOffBest_40 : decode cX7_placesOffBest 40 = .ok (.invokevirtual 177, 3) := by decide +kernel
theorem dX7_placesOffBest_43 : decode cX7_placesOffBest 43 = .ok (.iload_n 1, 1) := by decide +kernel
theorem dX7_placesOffBest_44 : decode cX7_placesOffBest 44 = .ok (.aload_n 0, 1) := by decide +kernel
theorem dX7_placesOffBest_45 : decode cX7_placesOffBest 45 = .ok (.aload_n 0, 1) := by decide +kernel
theorem dX7_placesOffBest_46 : decode cX7_placesOffBest 46 = .ok (.getfield 15, 3) := by decide +kernel
theorem dX7_placesOffBest_49 : decode cX7_placesOffBest 49 = .ok (.getfield 236, 3) := by decide +kernel
theorem dX7_placesOffBest_52 : decode cX7_placesOffBest 52 = .ok (.iload_n 2, 1) := by decide +kernel
theorem dX7_placesOffBest_53 : decode cX7_placesOffBest 53 = .ok (.iaload, 1) := by decide +kernel
theorem dX7_placesOffBest_54 : decode cX7_placesOffBest 54 = .ok (.invokevirtual 239, 3) := by decide +kernel
theorem dX7_placesOffBest_57 : decode cX7_placesOffBest 57 = .ok (.iadd, 1) := by decide +kernel
theorem dX7_placesOffBest_58 : decode cX7_placesOffBest 58 = .ok (.istore_n 1, 1) := by decide +kernel
theorem dX7_placesOffBest_59 : decode cX7_placesOffBest 59 = .ok (.iinc 2 1, 3) := by decide +kernel
theorem dX7_placesOffBest_62 : decode cX7_placesOffBest 62 = .ok (.goto (-58), 3) := by decide +kernel
theorem dX7_placesOffBest_65 : decode cX7_placesOffBest 65 = .ok (.iload_n 1, 1) := by decide +kernel
theorem dX7_placesOffBest_66 : decode cX7_placesOffBest 66 = .ok (.ireturn, 1) := by decide +kernel
theorem dX7_placesOffPath_0 : decode cX7_placesOffPath 0 = .ok (.iconst 0, 1) := by decide +kernel
theorem dX7_placesOffPath_1 : decode cX7_placesOffPath 1 = .ok (.istore_n 2, 1) := by decide +kernel
theorem dX7_placesOffPath_2 : decode cX7_placesOffPath 2 = .ok (.iconst 0, 1) := by decide +kernel
theorem dX7_placesOffPath_3 : decode cX7_placesOffPath 3 = .ok (.istore_n 3, 1) := by decide +kernel
theorem dX7_placesOffPath_4 : decode cX7_placesOffPath 4 = .ok (.iload_n 3, 1) := by decide +kernel
theorem dX7_placesOffPath_5 : decode cX7_placesOffPath 5 = .ok (.iload_n 1, 1) := by decide +kernel
theorem dX7_placesOffPath_6 : decode cX7_placesOffPath 6 = .ok (.if_icmp .ge 32, 3) := by decide +kernel
theorem dX7_placesOffPath_9 : decode cX7_placesOffPath 9 = .ok (.aload_n 0, 1) := by decide +kernel
theorem dX7_placesOffPath_10 : decode cX7_placesOffPath 10 = .ok (.getfield 45, 3) := by decide +kernel
theorem dX7_placesOffPath_13 : decode cX7_placesOffPath 13 = .ok (.getfield 192, 3) := by decide +kernel
theorem dX7_placesOffPath_16 : decode cX7_placesOffPath 16 = .ok (.iload_n 3, 1) := by decide +kernel
theorem dX7_placesOffPath_17 : decode cX7_placesOffPath 17 = .ok (.iaload, 1) := by decide +kernel
theorem dX7_placesOffPath_18 : decode cX7_placesOffPath 18 = .ok (.aload_n 0, 1) := by decide +kernel
theorem dX7_placesOffPath_19 : decode cX7_placesOffPath 19 = .ok (.getfield 38, 3) := by decide +kernel
theorem dX7_placesOffPath_22 : decode cX7_placesOffPath 22 = .ok (.iload_n 3, 1) := by decide +kernel
theorem dX7_placesOffPath_23 : decode cX7_placesOffPath 23 = .ok (.invokevirtual 203, 3) := by decide +kernel
theorem dX7_placesOffPath_26 : decode cX7_placesOffPath 26 = .ok (.if_icmp .eq 6, 3) := by decide +kernel
theorem dX7_placesOffPath_29 : decode cX7_placesOffPath 29 = .ok (.iinc 2 1, 3) := by decide +kernel
theorem dX7_placesOffPath_32 : decode cX7_placesOffPath 32 = .ok (.iinc 3 1, 3) := by decide +kernel
theorem dX7_placesOffPath_35 : decode cX7_placesOffPath 35 = .ok (.goto (-31), 3) := by decide +kernel
theorem dX7_placesOffPath_38 : decode cX7_placesOffPath 38 = .ok (.iload_n 2, 1) := by decide +kernel
theorem dX7_placesOffPath_39 : decode cX7_placesOffPath 39 = .ok (.ireturn, 1) := by decide +kernel
theorem dX8_init_0 : decode cX8_init 0 = .ok (.aload_n 0, 1) := by decide +kernel
theorem dX8_init_1 : decode cX8_init 1 = .ok (.invokespecial 1, 3) := by decide +kernel
theorem dX8_init_4 : decode cX8_init 4 = .ok (.aload_n 0, 1) := by decide +kernel
theorem dX8_init_5 : decode cX8_init 5 = .ok (.bipush 83, 2) := by decide +kernel
theorem dX8_init_7 : decode cX8_init 7 = .ok (.newarray .int, 2) := by decide +kernel
theorem dX8_init_9 : decode cX8_init 9 = .ok (.putfield 7, 3) := by decide +kernel
theorem dX8_init_12 : decode cX8_init 12 = .ok (.aload_n 0, 1) := by decide +kernel
theorem dX8_init_13 : decode cX8_init 13 = .ok (.bipush 83, 2) := by decide +kernel
theorem dX8_init_15 : decode cX8_init 15 = .ok (.newarray .int, 2) := by decide +kernel
theorem dX8_init_17 : decode cX8_init 17 = .ok (.putfield 13, 3) := by decide +kernel
theorem dX8_init_20 : decode cX8_init 20 = .ok (.aload_n 0, 1) := by decide +kernel
theorem dX8_init_21 : decode cX8_init 21 = .ok (.sipush 332, 3) := by decide +kernel
theorem dX8_init_24 : decode cX8_init 24 = .ok (.newarray .int, 2) := by decide +kernel
theorem dX8_init_26 : decode cX8_init 26 = .ok (.putfield 16, 3) := by decide +kernel
theorem dX8_init_29 : decode cX8_init 29 = .ok (.aload_n 0, 1) := by decide +kernel
theorem dX8_init_30 : decode cX8_init 30 = .ok (.bipush 83, 2) := by decide +kernel
theorem dX8_init_32 : decode cX8_init 32 = .ok (.newarray .int, 2) := by decide +kernel
theorem dX8_init_34 : decode cX8_init 34 = .ok (.putfield 19, 3) := by decide +kernel
theorem dX8_init_37 : decode cX8_init 37 = .ok (.aload_n 0, 1) := by decide +kernel
theorem dX8_init_38 : decode cX8_init 38 = .ok (.bipush 60, 2) := by decide +kernel
theorem dX8_init_40 : decode cX8_init 40 = .ok (.newarray .int, 2) := by decide +kernel
theorem dX8_init_42 : decode cX8_init 42 = .ok (.putfield 22, 3) := by decide +kernel
theorem dX8_init_45 : decode cX8_init 45 = .ok (.aload_n 0, 1) := by decide +kernel
theorem dX8_init_46 : decode cX8_init 46 = .ok (.bipush 28, 2) := by decide +kernel
theorem dX8_init_48 : decode cX8_init 48 = .ok (.newarray .long, 2) := by decide +kernel
theorem dX8_init_50 : decode cX8_init 50 = .ok (.putfield 25, 3) := by decide +kernel
theorem dX8_init_53 : decode cX8_init 53 = .ok (.aload_n 0, 1) := by decide +kernel
theorem dX8_init_54 : decode cX8_init 54 = .ok (.bipush 28, 2) := by decide +kernel
theorem dX8_init_56 : decode cX8_init 56 = .ok (.newarray .long, 2) := by decide +kernel
theorem dX8_init_58 : decode cX8_init 58 = .ok (.putfield 29, 3) := by decide +kernel
theorem dX8_init_61 : decode cX8_init 61 = .ok (.aload_n 0, 1) := by decide +kernel
theorem dX8_init_62 : decode cX8_init 62 = .ok (.bipush 28, 2) := by decide +kernel
theorem dX8_init_64 : decode cX8_init 64 = .ok (.newarray .long, 2) := by decide +kernel
theorem dX8_init_66 : decode cX8_init 66 = .ok (.putfield 32, 3) := by decide +kernel
theorem dX8_init_69 : decode cX8_init 69 = .ok (.aload_n 0, 1) := by decide +kernel
theorem dX8_init_70 : decode cX8_init 70 = .ok (.bipush 28, 2) := by decide +kernel
theorem dX8_init_72 : decode cX8_init 72 = .ok (.newarray .long, 2) := by decide +kernel
theorem dX8_init_74 : decode cX8_init 74 = .ok (.putfield 35, 3) := by decide +kernel
theorem dX8_init_77 : decode cX8_init 77 = .ok (.aload_n 0, 1) := by decide +kernel
theorem dX8_init_78 : decode cX8_init 78 = .ok (.bipush 32, 2) := by decide +kernel
theorem dX8_init_80 : decode cX8_init 80 = .ok (.newarray .long, 2) := by decide +kernel
theorem dX8_init_82 : decode cX8_init 82 = .ok (.putfield 38, 3) := by decide +kernel
theorem dX8_init_85 : decode cX8_init 85 = .ok (.aload_n 0, 1) := by decide +kernel
theorem dX8_init_86 : decode cX8_init 86 = .ok (.iconst 4, 1) := by decide +kernel
theorem dX8_init_87 : decode cX8_init 87 = .ok (.newarray .int, 2) := by decide +kernel
theorem dX8_init_89 : decode cX8_init 89 = .ok (.putfield 41, 3) := by decide +kernel
theorem dX8_init_92 : decode cX8_init 92 = .ok (.aload_n 0, 1) := by decide +kernel
theorem dX8_init_93 : decode cX8_init 93 = .ok (.iconst 4, 1) := by decide +kernel
theorem dX8_init_94 : decode cX8_init 94 = .ok (.newarray .int, 2) := by decide +kernel
theorem dX8_init_96 : decode cX8_init 96 = .ok (.putfield 44, 3) := by decide +kernel
theorem dX8_init_99 : decode cX8_init 99 = .ok (.aload_n 0, 1) := by decide +kernel
theorem dX8_init_100 : decode cX8_init 100 = .ok (.sipush 256, 3) := by decide +kernel
theorem dX8_init_103 : decode cX8_init 103 = .ok (.newarray .int, 2) := by decide +kernel
theorem dX8_init_105 : decode cX8_init 105 = .ok (.putfield 47, 3) := by decide +kernel
theorem dX8_init_108 : decode cX8_init 108 = .ok (.aload_n 0, 1) := by decide +kernel
theorem dX8_init_109 : decode cX8_init 109 = .ok (.iconst 0, 1) := by decide +kernel
theorem dX8_init_110 : decode cX8_init 110 = .ok (.putfield 50, 3) := by decide +kernel
theorem dX8_init_113 : decode cX8_init 113 = .ok (.aload_n 0, 1) := by decide +kernel
theorem dX8_init_114 : decode cX8_init 114 = .ok (.getfield 7, 3) := by decide +kernel
theorem dX8_init_117 : decode cX8_init 117 = .ok (.iconst 0, 1) := by decide +kernel
theorem dX8_init_118 : decode cX8_init 118 = .ok (.iconst 2, 1) := by decide +kernel
theorem dX8_init_119 : decode cX8_init 119 = .ok (.iastore, 1) := by decide +kernel
theorem dX8_init_120 : decode cX8_init 120 = .ok (.aload_n 0, 1) := by decide +kernel
theorem dX8_init_121 : decode cX8_init 121 = .ok (.getfield 7, 3) := by decide +kernel
theorem dX8_init_124 : decode cX8_init 124 = .ok (.iconst 2, 1) := by decide +kernel
theorem dX8_init_125 : decode cX8_init 125 = .ok (.sipush 800, 3) := by decide +kernel
theorem dX8_init_128 : decode cX8_init 128 = .ok (.iastore, 1) := by decide +kernel
theorem dX8_init_129 : decode cX8_init 129 = .ok (.iconst 0, 1) := by decide +kernel
theorem dX8_init_130 : decode cX8_init 130 = .ok (.istore_n 1, 1) := by decide +kernel
theorem dX8_init_131 : decode cX8_init 131 = .ok (.iload_n 1, 1) := by decide +kernel
theorem dX8_init_132 : decode cX8_init 132 = .ok (.iconst 2, 1) := by decide +kernel
theorem dX8_init_133 : decode cX8_init 133 = .ok (.if_icmp .ge 14, 3) := by decide +kernel
theorem dX8_init_136 : decode cX8_init 136 = .ok (.aload_n 0, 1) := by decide +kernel
theorem dX8_init_137 : decode cX8_init 137 = .ok (.iload_n 1, 1) := by decide +kernel
theorem dX8_init_138 : decode cX8_init 138 = .ok (.invokevirtual 54, 3) := by decide +kernel
theorem dX8_init_141 : decode cX8_init 141 = .ok (.iinc 1 1, 3) := by decide +kernel
theorem dX8_init_144 : decode cX8_init 144 = .ok (.goto (-13), 3) := by decide +kernel
theorem dX8_init_147 : decode cX8_init 147 = .ok (.return_, 1) := by decide +kernel
theorem dX8_in_0 : decode cX8_in 0 = .ok (.iload_n 0, 1) := by decide +kernel
theorem dX8_in_1 : decode cX8_in 1 = .ok (.iload_n 1, 1) := by decide +kernel
theorem dX8_in_2 : decode cX8_in 2 = .ok (.if_icmp .lt 12, 3) := by decide +kernel
theorem dX8_in_5 : decode cX8_in 5 = .ok (.iload_n 0, 1) := by decide +kernel
theorem dX8_in_6 : decode cX8_in 6 = .ok (.iload_n 2, 1) := by decide +kernel
theorem dX8_in_7 : decode cX8_in 7 = .ok (.if_icmp .gt 7, 3) := by decide +kernel
theorem dX8_in_10 : decode cX8_in 10 = .ok (.iconst 1, 1) := by decide +kernel
theorem dX8_in_11 : decode cX8_in 11 = .ok (.goto 4, 3) := by decide +kernel
theorem dX8_in_14 : decode cX8_in 14 = .ok (.iconst 0, 1) := by decide +kernel
theorem dX8_in_15 : decode cX8_in 15 = .ok (.ireturn, 1) := by decide +kernel
theorem dX8_isState_0 : decode cX8_isState 0 = .ok (.iload_n 1, 1) := by decide +kernel
theorem dX8_isState_1 : decode cX8_isState 1 = .ok (.iconst 0, 1) := by decide +kernel
theorem dX8_isState_2 : decode cX8_isState 2 = .ok (.aload_n 0, 1) := by decide +kernel
theorem dX8_isState_3 : decode cX8_isState 3 = .ok (.getfield 7, 3) := by decide +kernel
theorem dX8_isState_6 : decode cX8_isState 6 = .ok (.iconst 0, 1) := by decide +kernel
theorem dX8_isState_7 : decode cX8_isState 7 = .ok (.iaload, 1) := by decide +kernel
theorem dX8_isState_8 : decode cX8_isState 8 = .ok (.iconst 1, 1) := by decide +kernel
theorem dX8_isState_9 : decode cX8_isState 9 = .ok (.isub, 1) := by decide +kernel
theorem dX8_isState_10 : decode cX8_isState 10 = .ok (.invokestatic 58, 3) := by decide +kernel
theorem dX8_isState_13 : decode cX8_isState 13 = .ok (.ireturn, 1) := by decide +kernel
theorem dX8_isSample_0 : decode cX8_isSample 0 = .ok (.iload_n 1, 1) := by decide +kernel
theorem dX8_isSample_1 : decode cX8_isSample 1 = .ok (.iconst 0, 1) := by decide +kernel
theorem dX8_isSample_2 : decode cX8_isSample 2 = .ok (.aload_n 0, 1) := by decide +kernel
theorem dX8_isSample_3 : decode cX8_isSample 3 = .ok (.getfield 7, 3) := by decide +kernel
theorem dX8_isSample_6 : decode cX8_isSample 6 = .ok (.iconst 1, 1) := by decide +kernel
theorem dX8_isSample_7 : decode cX8_isSample 7 = .ok (.iaload, 1) := by decide +kernel
theorem dX8_isSample_8 : decode cX8_isSample 8 = .ok (.iconst 1, 1) := by decide +kernel
theorem dX8_isSample_9 : decode cX8_isSample 9 = .ok (.isub, 1) := by decide +kernel
theorem dX8_isSample_10 : decode cX8_isSample 10 = .ok (.invokestatic 58, 3) := by decide +kernel
theorem dX8_isSample_13 : decode cX8_isSample 13 = .ok (.ireturn, 1) := by decide +kernel
theorem dX8_go_0 : decode cX8_go 0 = .ok (.aload_n 0, 1) := by decide +kernel
theorem dX8_go_1 : decode cX8_go 1 = .ok (.getfield 7, 3) := by decide +kernel
theorem dX8_go_4 : decode cX8_go 4 = .ok (.bipush 7, 2) := by decide +kernel
theorem dX8_go_6 : decode cX8_go 6 = .ok (.iconst 4, 1) := by decide +kernel
theorem dX8_go_7 : decode cX8_go 7 = .ok (.iload_n 1, 1) := by decide +kernel
theorem dX8_go_8 : decode cX8_go 8 = .ok (.imul, 1) := by decide +kernel
theorem dX8_go_9 : decode cX8_go 9 = .ok (.iadd, 1) := by decide +kernel
theorem dX8_go_10 : decode cX8_go 10 = .ok (.iload_n 2, 1) := by decide +kernel
theorem dX8_go_11 : decode cX8_go 11 = .ok (.iadd, 1) := by decide +kernel
theorem dX8_go_12 : decode cX8_go 12 = .ok (.iaload, 1) := by decide +kernel
theorem dX8_go_13 : decode cX8_go 13 = .ok (.ireturn, 1) := by decide +kernel
theorem dX8_show_0 : decode cX8_show 0 = .ok (.aload_n 0, 1) := by decide +kernel
theorem dX8_show_1 : decode cX8_show 1 = .ok (.getfield 7, 3) := by decide +kernel
theorem dX8_show_4 : decode cX8_show 4 = .ok (.bipush 23, 2) := by decide +kernel
theorem dX8_show_6 : decode cX8_show 6 = .ok (.iconst 3, 1) := by decide +kernel
theorem dX8_show_7 : decode cX8_show 7 = .ok (.iload_n 1, 1) := by decide +kernel
theorem dX8_show_8 : decode cX8_show 8 = .ok (.imul, 1) := by decide +kernel
theorem dX8_show_9 : decode cX8_show 9 = .ok (.iadd, 1) := by decide +kernel
theorem dX8_show_10 : decode cX8_show 10 = .ok (.iload_n 2, 1) := by decide +kernel
theorem dX8_show_11 : decode cX8_show 11 = .ok (.iadd, 1) := by decide +kernel
theorem dX8_show_12 : decode cX8_show 12 = .ok (.iaload, 1) := by decide +kernel
theorem dX8_show_13 : decode cX8_show 13 = .ok (.ireturn, 1) := by decide +kernel
theorem dX8_placesOf_0 : decode cX8_placesOf 0 = .ok (.aload_n 0, 1) := by decide +kernel
theorem dX8_placesOf_1 : decode cX8_placesOf 1 = .ok (.getfield 7, 3) := by decide +kernel
theorem dX8_placesOf_4 : decode cX8_placesOf 4 = .ok (.bipush 35, 2) := by decide +kernel
theorem dX8_placesOf_6 : decode cX8_placesOf 6 = .ok (.bipush 8, 2) := by decide +kernel
theorem dX8_placesOf_8 : decode cX8_placesOf 8 = .ok (.iload_n 1, 1) := by decide +kernel
theorem dX8_placesOf_9 : decode cX8_placesOf 9 = .ok (.imul, 1) := by decide +kernel
theorem dX8_placesOf_10 : decode cX8_placesOf 10 = .ok (.iadd, 1) := by decide +kernel
theorem dX8_placesOf_11 : decode cX8_placesOf 11 = .ok (.iaload, 1) := by decide +kernel
theorem dX8_placesOf_12 : decode cX8_placesOf 12 = .ok (.ireturn, 1) := by decide +kernel
theorem dX8_signAt_0 : decode cX8_signAt 0 = .ok (.aload_n 0, 1) := by decide +kernel
theorem dX8_signAt_1 : decode cX8_signAt 1 = .ok (.getfield 7, 3) := by decide +kernel
theorem dX8_signAt_4 : decode cX8_signAt 4 = .ok (.bipush 35, 2) := by decide +kernel
theorem dX8_signAt_6 : decode cX8_signAt 6 = .ok (.bipush 8, 2) := by decide +kernel
theorem dX8_signAt_8 : decode cX8_signAt 8 = .ok (.iload_n 1, 1) := by decide +kernel
theorem dX8_signAt_9 : decode cX8_signAt 9 = .ok (.imul, 1) := by decide +kernel
theorem dX8_signAt_10 : decode cX8_signAt 10 = .ok (.iadd, 1) := by decide +kernel
theorem dX8_signAt_11 : decode cX8_signAt 11 = .ok (.iconst 1, 1) := by decide +kernel
theorem dX8_signAt_12 : decode cX8_signAt 12 = .ok (.iadd, 1) := by decide +kernel
theorem dX8_signAt_13 : decode cX8_signAt 13 = .ok (.iload_n 2, 1) := by decide +kernel
theorem dX8_signAt_14 : decode cX8_signAt 14 = .ok (.iadd, 1) := by decide +kernel
theorem dX8_signAt_15 : decode cX8_signAt 15 = .ok (.iaload, 1) := by decide +kernel
theorem dX8_signAt_16 : decode cX8_signAt 16 = .ok (.ireturn, 1) := by decide +kernel
theorem dX8_fills_0 : decode cX8_fills 0 = .ok (.aload_n 0, 1) := by decide +kernel
theorem dX8_fills_1 : decode cX8_fills 1 = .ok (.getfield 7, 3) := by decide +kernel
theorem dX8_fills_4 : decode cX8_fills 4 = .ok (.iconst 3, 1) := by decide +kernel
theorem dX8_fills_5 : decode cX8_fills 5 = .ok (.iload_n 1, 1) := by decide +kernel
theorem dX8_fills_6 : decode cX8_fills 6 = .ok (.iadd, 1) := by decide +kernel
theorem dX8_fills_7 : decode cX8_fills 7 = .ok (.iconst 1, 1) := by decide +kernel
theorem dX8_fills_8 : decode cX8_fills 8 = .ok (.iastore, 1) := by decide +kernel
theorem dX8_fills_9 : decode cX8_fills 9 = .ok (.iconst 0, 1) := by decide +kernel
theorem dX8_fills_10 : decode cX8_fills 10 = .ok (.istore_n 2, 1) := by decide +kernel
theorem dX8_fills_11 : decode cX8_fills 11 = .ok (.iload_n 2, 1) := by decide +kernel
theorem dX8_fills_12 : decode cX8_fills 12 = .ok (.aload_n 0, 1) := by decide +kernel
theorem dX8_fills_13 : decode cX8_fills 13 = .ok (.getfield 7, 3) := by decide +kernel
theorem dX8_fills_16 : decode cX8_fills 16 = .ok (.iconst 0, 1) := by decide +kernel
theorem dX8_fills_17 : decode cX8_fills 17 = .ok (.iaload, 1) := by decide +kernel
theorem dX8_fills_18 : decode cX8_fills 18 = .ok (.if_icmp .ge 37, 3) := by decide +kernel
theorem dX8_fills_21 : decode cX8_fills 21 = .ok (.aload_n 0, 1) := by decide +kernel
theorem dX8_fills_22 : decode cX8_fills 22 = .ok (.getfield 7, 3) := by decide +kernel
theorem dX8_fills_25 : decode cX8_fills 25 = .ok (.bipush 7, 2) := by decide +kernel
theorem dX8_fills_27 : decode cX8_fills 27 = .ok (.iconst 4, 1) := by decide +kernel
theorem dX8_fills_28 : decode cX8_fills 28 = .ok (.iload_n 1, 1) := by decide +kernel
theorem dX8_fills_29 : decode cX8_fills 29 = .ok (.imul, 1) := by decide +kernel
theorem dX8_fills_30 : decode cX8_fills 30 = .ok (.iadd, 1) := by decide +kernel
theorem dX8_fills_31 : decode cX8_fills 31 = .ok (.iload_n 2, 1) := by decide +kernel
theorem dX8_fills_32 : decode cX8_fills 32 = .ok (.iadd, 1) := by decide +kernel
theorem dX8_fills_33 : decode cX8_fills 33 = .ok (.iconst 1, 1) := by decide +kernel
theorem dX8_fills_34 : decode cX8_fills 34 = .ok (.iastore, 1) := by decide +kernel
theorem dX8_fills_35 : decode cX8_fills 35 = .ok (.aload_n 0, 1) := by decide +kernel
theorem dX8_fills_36 : decode cX8_fills 36 = .ok (.getfield 7, 3) := by decide +kernel
theorem dX8_fills_39 : decode cX8_fills 39 = .ok (.bipush 7, 2) := by decide +kernel
theorem dX8_fills_41 : decode cX8_fills 41 = .ok (.iconst 4, 1) := by decide +kernel
theorem dX8_fills_42 : decode cX8_fills 42 = .ok (.iload_n 2, 1) := by decide +kernel
theorem dX8_fills_43 : decode cX8_fills 43 = .ok (.imul, 1) := by decide +kernel
theorem dX8_fills_44 : decode cX8_fills 44 = .ok (.iadd, 1) := by decide +kernel
theorem dX8_fills_45 : decode cX8_fills 45 = .ok (.iload_n 1, 1) := by decide +kernel
theorem dX8_fills_46 : decode cX8_fills 46 = .ok (.iadd, 1) := by decide +kernel
theorem dX8_fills_47 : decode cX8_fills 47 = .ok (.iconst 1, 1) := by decide +kernel
theorem dX8_fills_48 : decode cX8_fills 48 = .ok (.iastore, 1) := by decide +kernel
theorem dX8_fills_49 : decode cX8_fills 49 = .ok (.iinc 2 1, 3) := by decide +kernel
theorem dX8_fills_52 : decode cX8_fills 52 = .ok (.goto (-41), 3) := by decide +kernel
theorem dX8_fills_55 : decode cX8_fills 55 = .ok (.iconst 0, 1) := by decide +kernel
theorem dX8_fills_56 : decode cX8_fills 56 = .ok (.istore_n 2, 1) := by decide +kernel
theorem dX8_fills_57 : decode cX8_fills 57 = .ok (.iload_n 2, 1) := by decide +kernel
theorem dX8_fills_58 : decode cX8_fills 58 = .ok (.iconst 3, 1) := by decide +kernel
theorem dX8_fills_59 : decode cX8_fills 59 = .ok (.if_icmp .ge 23, 3) := by decide +kernel
theorem dX8_fills_62 : decode cX8_fills 62 = .ok (.aload_n 0, 1) := by decide +kernel
theorem dX8_fills_63 : decode cX8_fills 63 = .ok (.getfield 7, 3) := by decide +kernel
theorem dX8_fills_66 : decode cX8_fills 66 = .ok (.bipush 23, 2) := by decide +kernel
theorem dX8_fills_68 : decode cX8_fills 68 = .ok (.iconst 3, 1) := by decide +kernel
theorem dX8_fills_69 : decode cX8_fills 69 = .ok (.iload_n 1, 1) := by decide +kernel
theorem dX8_fills_70 : decode cX8_fills 70 = .ok (.imul, 1) := by decide +kernel
theorem dX8_fills_71 : decode cX8_fills 71 = .ok (.iadd, 1) := by decide +kernel
theorem dX8_fills_72 : decode cX8_fills 72 = .ok (.iload_n 2, 1) := by decide +kernel
theorem dX8_fills_73 : decode cX8_fills 73 = .ok (.iadd, 1) := by decide +kernel
theorem dX8_fills_74 : decode cX8_fills 74 = .ok (.iconst 1, 1) := by decide +kernel
theorem dX8_fills_75 : decode cX8_fills 75 = .ok (.iastore, 1) := by decide +kernel
theorem dX8_fills_76 : decode cX8_fills 76 = .ok (.iinc 2 1, 3) := by decide +kernel
theorem dX8_fills_79 : decode cX8_fills 79 = .ok (.goto (-22), 3) := by decide +kernel
theorem dX8_fills_82 : decode cX8_fills 82 = .ok (.return_, 1) := by decide +kernel
theorem dX8_records_0 : decode cX8_records 0 = .ok (.aload_n 0, 1) := by decide +kernel
theorem dX8_records_1 : decode cX8_records 1 = .ok (.getfield 62, 3) := by decide +kernel
theorem dX8_records_4 : decode cX8_records 4 = .ok (.iconst 4, 1) := by decide +kernel
theorem dX8_records_5 : decode cX8_records 5 = .ok (.if_icmp .ne 43, 3) := by decide +kernel
theorem dX8_records_8 : decode cX8_records 8 = .ok (.iconst 0, 1) := by decide +kernel
theorem dX8_records_9 : decode cX8_records 9 = .ok (.istore_n 1, 1) := by decide +kernel
theorem dX8_records_10 : decode cX8_records 10 = .ok (.iload_n 1, 1) := by decide +kernel
theorem dX8_records_11 : decode cX8_records 11 = .ok (.sipush 249, 3) := by decide +kernel
theorem dX8_records_14 : decode cX8_records 14 = .ok (.if_icmp .ge 24, 3) := by decide +kernel
theorem dX8_records_17 : decode cX8_records 17 = .ok (.aload_n 0, 1) := by decide +kernel
theorem dX8_records_18 : decode cX8_records 18 = .ok (.getfield 16, 3) := by decide +kernel
theorem dX8_records_21 : decode cX8_records 21 = .ok (.iload_n 1, 1) := by decide +kernel
theorem dX8_records_22 : decode cX8_records 22 = .ok (.aload_n 0, 1) := by decide +kernel
theorem dX8_records_23 : decode cX8_records 23 = .ok (.getfield 16, 3) := by decide +kernel
theorem dX8_records_26 : decode cX8_records 26 = .ok (.iload_n 1, 1) := by decide +kernel
theorem dX8_records_27 : decode cX8_records 27 = .ok (.bipush 83, 2) := by decide +kernel
theorem dX8_records_29 : decode cX8_records 29 = .ok (.iadd, 1) := by decide +kernel
theorem dX8_records_30 : decode cX8_records 30 = .ok (.iaload, 1) := by decide +kernel
theorem dX8_records_31 : decode cX8_records 31 = .ok (.iastore, 1) := by decide +kernel
theorem dX8_records_32 : decode cX8_records 32 = .ok (.iinc 1 1, 3) := by decide +kernel
theorem dX8_records_35 : decode cX8_records 35 = .ok (.goto (-25), 3) := by decide +kernel
theorem dX8_records_38 : decode cX8_records 38 = .ok (.aload_n 0, 1) := by decide +kernel
theorem dX8_records_39 : decode cX8_records 39 = .ok (.dup, 1) := by decide +kernel
theorem dX8_records_40 : decode cX8_records 40 = .ok (.getfield 62, 3) := by decide +kernel
theorem dX8_records_43 : decode cX8_records 43 = .ok (.iconst 1, 1) := by decide +kernel
theorem dX8_records_44 : decode cX8_records 44 = .ok (.isub, 1) := by decide +kernel
theorem dX8_records_45 : decode cX8_records 45 = .ok (.putfield 62, 3) := by decide +kernel
theorem dX8_records_48 : decode cX8_records 48 = .ok (.iconst 0, 1) := by decide +kernel
theorem dX8_records_49 : decode cX8_records 49 = .ok (.istore_n 1, 1) := by decide +kernel
theorem dX8_records_50 : decode cX8_records 50 = .ok (.iload_n 1, 1) := by decide +kernel
theorem dX8_records_51 : decode cX8_records 51 = .ok (.bipush 83, 2) := by decide +kernel
theorem dX8_records_53 : decode cX8_records 53 = .ok (.if_icmp .ge 29, 3) := by decide +kernel
theorem dX8_records_56 : decode cX8_records 56 = .ok (.aload_n 0, 1) := by decide +kernel
theorem dX8_records_57 : decode cX8_records 57 = .ok (.getfield 16, 3) := by decide +kernel
theorem dX8_records_60 : decode cX8_records 60 = .ok (.bipush 83, 2) := by decide +kernel
theorem dX8_records_62 : decode cX8_records 62 = .ok (.aload_n 0, 1) := by decide +kernel
theorem dX8_records_63 : decode cX8_records 63 = .ok (.getfield 62, 3) := by decide +kernel
theorem dX8_records_66 : decode cX8_records 66 = .ok (.imul, 1) := by decide +kernel
theorem dX8_records_67 : decode cX8_records 67 = .ok (.iload_n 1, 1) := by decide +kernel
theorem dX8_records_68 : decode cX8_records 68 = .ok (.iadd, 1) := by decide +kernel
theorem dX8_records_69 : decode cX8_records 69 = .ok (.aload_n 0, 1) := by decide +kernel
theorem dX8_records_70 : decode cX8_records 70 = .ok (.getfield 7, 3) := by decide +kernel
theorem dX8_records_73 : decode cX8_records 73 = .ok (.iload_n 1, 1) := by decide +kernel
theorem dX8_records_74 : decode cX8_records 74 = .ok (.iaload, 1) := by decide +kernel
theorem dX8_records_75 : decode cX8_records 75 = .ok (.iastore, 1) := by decide +kernel
theorem dX8_records_76 : decode cX8_records 76 = .ok (.iinc 1 1, 3) := by decide +kernel
theorem dX8_records_79 : decode cX8_records 79 = .ok (.goto (-29), 3) := by decide +kernel
theorem dX8_records_82 : decode cX8_records 82 = .ok (.aload_n 0, 1) := by decide +kernel
theorem dX8_records_83 : decode cX8_records 83 = .ok (.dup, 1) := by decide +kernel
theorem dX8_records_84 : decode cX8_records 84 = .ok (.getfield 62, 3) := by decide +kernel
theorem dX8_records_87 : decode cX8_records 87 = .ok (.iconst 1, 1) := by decide +kernel
theorem dX8_records_88 : decode cX8_records 88 = .ok (.iadd, 1) := by decide +kernel
theorem dX8_records_89 : decode cX8_records 89 = .ok (.putfield 62, 3) := by decide +kernel
theorem dX8_records_92 : decode cX8_records 92 = .ok (.return_, 1) := by decide +kernel
theorem dX8_laysRuns_0 : decode cX8_laysRuns 0 = .ok (.aload_n 0, 1) := by decide +kernel
theorem dX8_laysRuns_1 : decode cX8_laysRuns 1 = .ok (.iload_n 1, 1) := by decide +kernel
theorem dX8_laysRuns_2 : decode cX8_laysRuns 2 = .ok (.invokevirtual 65, 3) := by decide +kernel
theorem dX8_laysRuns_5 : decode cX8_laysRuns 5 = .ok (.iconst 1, 1) := by decide +kernel
theorem dX8_laysRuns_6 : decode cX8_laysRuns 6 = .ok (.isub, 1) := by decide +kernel
theorem dX8_laysRuns_7 : decode cX8_laysRuns 7 = .ok (.istore_n 2, 1) := by decide +kernel
theorem dX8_laysRuns_8 : decode cX8_laysRuns 8 = .ok (.iconst 0, 1) := by decide +kernel
theorem dX8_laysRuns_9 : decode cX8_laysRuns 9 = .ok (.istore_n 3, 1) := by decide +kernel
theorem dX8_laysRuns_10 : decode cX8_laysRuns 10 = .ok (.iload_n 3, 1) := by decide +kernel
theorem dX8_laysRuns_11 : decode cX8_laysRuns 11 = .ok (.aload_n 0, 1) := by decide +kernel
theorem dX8_laysRuns_12 : decode cX8_laysRuns 12 = .ok (.getfield 7, 3) := by decide +kernel
theorem dX8_laysRuns_15 : decode cX8_laysRuns 15 = .ok (.iconst 0, 1) := by decide +kernel
theorem dX8_laysRuns_16 : decode cX8_laysRuns 16 = .ok (.iaload, 1) := by decide +kernel
theorem dX8_laysRuns_17 : decode cX8_laysRuns 17 = .ok (.if_icmp .ge 70, 3) := by decide +kernel
theorem dX8_laysRuns_20 : decode cX8_laysRuns 20 = .ok (.aload_n 0, 1) := by decide +kernel
theorem dX8_laysRuns_21 : decode cX8_laysRuns 21 = .ok (.getfield 25, 3) := by decide +kernel
theorem dX8_laysRuns_24 : decode cX8_laysRuns 24 = .ok (.iload_n 3, 1) := by decide +kernel
theorem dX8_laysRuns_25 : decode cX8_laysRuns 25 = .ok (.aload_n 0, 1) := by decide +kernel
theorem dX8_laysRuns_26 : decode cX8_laysRuns 26 = .ok (.getfield 7, 3) := by decide +kernel
theorem dX8_laysRuns_29 : decode cX8_laysRuns 29 = .ok (.iconst 3, 1) := by decide +kernel
theorem dX8_laysRuns_30 : decode cX8_laysRuns 30 = .ok (.iload_n 3, 1) := by decide +kernel
theorem dX8_laysRuns_31 : decode cX8_laysRuns 31 = .ok (.iadd, 1) := by decide +kernel
theorem dX8_laysRuns_32 : decode cX8_laysRuns 32 = .ok (.iaload, 1) := by decide +kernel
theorem dX8_laysRuns_33 : decode cX8_laysRuns 33 = .ok (.i2l, 1) := by decide +kernel
theorem dX8_laysRuns_34 : decode cX8_laysRuns 34 = .ok (.aload_n 0, 1) := by decide +kernel
theorem dX8_laysRuns_35 : decode cX8_laysRuns 35 = .ok (.iload_n 3, 1) := by decide +kernel
theorem dX8_laysRuns_36 : decode cX8_laysRuns 36 = .ok (.aload_n 0, 1) := by decide +kernel
theorem dX8_laysRuns_37 : decode cX8_laysRuns 37 = .ok (.iload_n 1, 1) := by decide +kernel
theorem dX8_laysRuns_38 : decode cX8_laysRuns 38 = .ok (.iconst 0, 1) := by decide +kernel
theorem dX8_laysRuns_39 : decode cX8_laysRuns 39 = .ok (.invokevirtual 69, 3) := by decide +kernel
theorem dX8_laysRuns_42 : decode cX8_laysRuns 42 = .ok (.invokevirtual 73, 3) := by decide +kernel
theorem dX8_laysRuns_45 : decode cX8_laysRuns 45 = .ok (.i2l, 1) := by decide +kernel
theorem dX8_laysRuns_46 : decode cX8_laysRuns 46 = .ok (.lmul, 1) := by decide +kernel
theorem dX8_laysRuns_47 : decode cX8_laysRuns 47 = .ok (.lastore, 1) := by decide +kernel
theorem dX8_laysRuns_48 : decode cX8_laysRuns 48 = .ok (.aload_n 0, 1) := by decide +kernel
theorem dX8_laysRuns_49 : decode cX8_laysRuns 49 = .ok (.getfield 29, 3) := by decide +kernel
theorem dX8_laysRuns_52 : decode cX8_laysRuns 52 = .ok (.iconst 4, 1) := by decide +kernel
theorem dX8_laysRuns_53 : decode cX8_laysRuns 53 = .ok (.iload_n 2, 1) := by decide +kernel
theorem dX8_laysRuns_54 : decode cX8_laysRuns 54 = .ok (.imul, 1) := by decide +kernel
theorem dX8_laysRuns_55 : decode cX8_laysRuns 55 = .ok (.iload_n 3, 1) := by decide +kernel
theorem dX8_laysRuns_56 : decode cX8_laysRuns 56 = .ok (.iadd, 1) := by decide +kernel
theorem dX8_laysRuns_57 : decode cX8_laysRuns 57 = .ok (.lconst 1, 1) := by decide +kernel
theorem dX8_laysRuns_58 : decode cX8_laysRuns 58 = .ok (.lastore, 1) := by decide +kernel
theorem dX8_laysRuns_59 : decode cX8_laysRuns 59 = .ok (.aload_n 0, 1) := by decide +kernel
theorem dX8_laysRuns_60 : decode cX8_laysRuns 60 = .ok (.getfield 32, 3) := by decide +kernel
theorem dX8_laysRuns_63 : decode cX8_laysRuns 63 = .ok (.iconst 4, 1) := by decide +kernel
theorem dX8_laysRuns_64 : decode cX8_laysRuns 64 = .ok (.iload_n 2, 1) := by decide +kernel
theorem dX8_laysRuns_65 : decode cX8_laysRuns 65 = .ok (.imul, 1) := by decide +kernel
theorem dX8_laysRuns_66 : decode cX8_laysRuns 66 = .ok (.iload_n 3, 1) := by decide +kernel
theorem dX8_laysRuns_67 : decode cX8_laysRuns 67 = .ok (.iadd, 1) := by decide +kernel
theorem dX8_laysRuns_68 : decode cX8_laysRuns 68 = .ok (.lconst 1, 1) := by decide +kernel
theorem dX8_laysRuns_69 : decode cX8_laysRuns 69 = .ok (.lastore, 1) := by decide +kernel
theorem dX8_laysRuns_70 : decode cX8_laysRuns 70 = .ok (.aload_n 0, 1) := by decide +kernel
theorem dX8_laysRuns_71 : decode cX8_laysRuns 71 = .ok (.getfield 35, 3) := by decide +kernel
theorem dX8_laysRuns_74 : decode cX8_laysRuns 74 = .ok (.iconst 4, 1) := by decide +kernel
theorem dX8_laysRuns_75 : decode cX8_laysRuns 75 = .ok (.iload_n 2, 1) := by decide +kernel
theorem dX8_laysRuns_76 : decode cX8_laysRuns 76 = .ok (.imul, 1) := by decide +kernel
theorem dX8_laysRuns_77 : decode cX8_laysRuns 77 = .ok (.iload_n 3, 1) := by decide +kernel
theorem dX8_laysRuns_78 : decode cX8_laysRuns 78 = .ok (.iadd, 1) := by decide +kernel
theorem dX8_laysRuns_79 : decode cX8_laysRuns 79 = .ok (.lconst 1, 1) := by decide +kernel
theorem dX8_laysRuns_80 : decode cX8_laysRuns 80 = .ok (.lastore, 1) := by decide +kernel
theorem dX8_laysRuns_81 : decode cX8_laysRuns 81 = .ok (.iinc 3 1, 3) := by decide +kernel
theorem dX8_laysRuns_84 : decode cX8_laysRuns 84 = .ok (.goto (-74), 3) := by decide +kernel
theorem dX8_laysRuns_87 : decode cX8_laysRuns 87 = .ok (.iconst 1, 1) := by decide +kernel
theorem dX8_laysRuns_88 : decode cX8_laysRuns 88 = .ok (.istore_n 3, 1) := by decide +kernel
theorem dX8_laysRuns_89 : decode cX8_laysRuns 89 = .ok (.iload_n 3, 1) := by decide +kernel
theorem dX8_laysRuns_90 : decode cX8_laysRuns 90 = .ok (.iload_n 2, 1) := by decide +kernel
theorem dX8_laysRuns_91 : decode cX8_laysRuns 91 = .ok (.if_icmp .gt 107, 3) := by decide +kernel
theorem dX8_laysRuns_94 : decode cX8_laysRuns 94 = .ok (.iconst 0, 1) := by decide +kernel
theorem dX8_laysRuns_95 : decode cX8_laysRuns 95 = .ok (.istore 4, 2) := by decide +kernel
theorem dX8_laysRuns_97 : decode cX8_laysRuns 97 = .ok (.iload 4, 2) := by decide +kernel
theorem dX8_laysRuns_99 : decode cX8_laysRuns 99 = .ok (.aload_n 0, 1) := by decide +kernel
theorem dX8_laysRuns_100 : decode cX8_laysRuns 100 = .ok (.getfield 7, 3) := by decide +kernel
theorem dX8_laysRuns_103 : decode cX8_laysRuns 103 = .ok (.iconst 0, 1) := by decide +kernel
theorem dX8_laysRuns_104 : decode cX8_laysRuns 104 = .ok (.iaload, 1) := by decide +kernel
theorem dX8_laysRuns_105 : decode cX8_laysRuns 105 = .ok (.if_icmp .ge 87, 3) := by decide +kernel
theorem dX8_laysRuns_108 : decode cX8_laysRuns 108 = .ok (.lconst 0, 1) := by decide +kernel
theorem dX8_laysRuns_109 : decode cX8_laysRuns 109 = .ok (.lstore 5, 2) := by decide +kernel
theorem dX8_laysRuns_111 : decode cX8_laysRuns 111 = .ok (.iconst 0, 1) := by decide +kernel
theorem dX8_laysRuns_112 : decode cX8_laysRuns 112 = .ok (.istore 7, 2) := by decide +kernel
theorem dX8_laysRuns_114 : decode cX8_laysRuns 114 = .ok (.iload 7, 2) := by decide +kernel
theorem dX8_laysRuns_116 : decode cX8_laysRuns 116 = .ok (.aload_n 0, 1) := by decide +kernel
theorem dX8_laysRuns_117 : decode cX8_laysRuns 117 = .ok (.getfield 7, 3) := by decide +kernel
theorem dX8_laysRuns_120 : decode cX8_laysRuns 120 = .ok (.iconst 0, 1) := by decide +kernel
theorem dX8_laysRuns_121 : decode cX8_laysRuns 121 = .ok (.iaload, 1) := by decide +kernel
theorem dX8_laysRuns_122 : decode cX8_laysRuns 122 = .ok (.if_icmp .ge 37, 3) := by decide +kernel
theorem dX8_laysRuns_125 : decode cX8_laysRuns 125 = .ok (.lload 5, 2) := by decide +kernel
theorem dX8_laysRuns_127 : decode cX8_laysRuns 127 = .ok (.aload_n 0, 1) := by decide +kernel
theorem dX8_laysRuns_128 : decode cX8_laysRuns 128 = .ok (.getfield 25, 3) := by decide +kernel
theorem dX8_laysRuns_131 : decode cX8_laysRuns 131 = .ok (.iconst 4, 1) := by decide +kernel
theorem dX8_laysRuns_132 : decode cX8_laysRuns 132 = .ok (.iload_n 3, 1) := by decide +kernel
theorem dX8_laysRuns_133 : decode cX8_laysRuns 133 = .ok (.imul, 1) := by decide +kernel
theorem dX8_laysRuns_134 : decode cX8_laysRuns 134 = .ok (.iconst 4, 1) := by decide +kernel
theorem dX8_laysRuns_135 : decode cX8_laysRuns 135 = .ok (.isub, 1) := by decide +kernel
theorem dX8_laysRuns_136 : decode cX8_laysRuns 136 = .ok (.iload 7, 2) := by decide +kernel
theorem dX8_laysRuns_138 : decode cX8_laysRuns 138 = .ok (.iadd, 1) := by decide +kernel
theorem dX8_laysRuns_139 : decode cX8_laysRuns 139 = .ok (.laload, 1) := by decide +kernel
theorem dX8_laysRuns_140 : decode cX8_laysRuns 140 = .ok (.aload_n 0, 1) := by decide +kernel
theorem dX8_laysRuns_141 : decode cX8_laysRuns 141 = .ok (.iload 7, 2) := by decide +kernel
theorem dX8_laysRuns_143 : decode cX8_laysRuns 143 = .ok (.iload 4, 2) := by decide +kernel
theorem dX8_laysRuns_145 : decode cX8_laysRuns 145 = .ok (.invokevirtual 76, 3) := by decide +kernel
theorem dX8_laysRuns_148 : decode cX8_laysRuns 148 = .ok (.i2l, 1) := by decide +kernel
theorem dX8_laysRuns_149 : decode cX8_laysRuns 149 = .ok (.lmul, 1) := by decide +kernel
theorem dX8_laysRuns_150 : decode cX8_laysRuns 150 = .ok (.ladd, 1) := by decide +kernel
theorem dX8_laysRuns_151 : decode cX8_laysRuns 151 = .ok (.lstore 5, 2) := by decide +kernel
theorem dX8_laysRuns_153 : decode cX8_laysRuns 153 = .ok (.iinc 7 1, 3) := by decide +kernel
theorem dX8_laysRuns_156 : decode cX8_laysRuns 156 = .ok (.goto (-42), 3) := by decide +kernel
theorem dX8_laysRuns_159 : decode cX8_laysRuns 159 = .ok (.aload_n 0, 1) := by decide +kernel
theorem dX8_laysRuns_160 : decode cX8_laysRuns 160 = .ok (.getfield 25, 3) := by decide +kernel
theorem dX8_laysRuns_163 : decode cX8_laysRuns 163 = .ok (.iconst 4, 1) := by decide +kernel
theorem dX8_laysRuns_164 : decode cX8_laysRuns 164 = .ok (.iload_n 3, 1) := by decide +kernel
theorem dX8_laysRuns_165 : decode cX8_laysRuns 165 = .ok (.imul, 1) := by decide +kernel
theorem dX8_laysRuns_166 : decode cX8_laysRuns 166 = .ok (.iload 4, 2) := by decide +kernel
theorem dX8_laysRuns_168 : decode cX8_laysRuns 168 = .ok (.iadd, 1) := by decide +kernel
theorem dX8_laysRuns_169 : decode cX8_laysRuns 169 = .ok (.lload 5, 2) := by decide +kernel
theorem dX8_laysRuns_171 : decode cX8_laysRuns 171 = .ok (.aload_n 0, 1) := by decide +kernel
theorem dX8_laysRuns_172 : decode cX8_laysRuns 172 = .ok (.iload 4, 2) := by decide +kernel
theorem dX8_laysRuns_174 : decode cX8_laysRuns 174 = .ok (.aload_n 0, 1) := by decide +kernel
theorem dX8_laysRuns_175 : decode cX8_laysRuns 175 = .ok (.iload_n 1, 1) := by decide +kernel
theorem dX8_laysRuns_176 : decode cX8_laysRuns 176 = .ok (.iload_n 3, 1) := by decide +kernel
theorem dX8_laysRuns_177 : decode cX8_laysRuns 177 = .ok (.invokevirtual 69, 3) := by decide +kernel
theorem dX8_laysRuns_180 : decode cX8_laysRuns 180 = .ok (.invokevirtual 73, 3) := by decide +kernel
theorem dX8_laysRuns_183 : decode cX8_laysRuns 183 = .ok (.i2l, 1) := by decide +kernel
theorem dX8_laysRuns_184 : decode cX8_laysRuns 184 = .ok (.lmul, 1) := by decide +kernel
theorem dX8_laysRuns_185 : decode cX8_laysRuns 185 = .ok (.lastore, 1) := by decide +kernel
theorem dX8_laysRuns_186 : decode cX8_laysRuns 186 = .ok (.iinc 4 1, 3) := by decide +kernel
theorem dX8_laysRuns_189 : decode cX8_laysRuns 189 = .ok (.goto (-92), 3) := by decide +kernel
theorem dX8_laysRuns_192 : decode cX8_laysRuns 192 = .ok (.iinc 3 1, 3) := by decide +kernel
theorem dX8_laysRuns_195 : decode cX8_laysRuns 195 = .ok (.goto (-106), 3) := by decide +kernel
theorem dX8_laysRuns_198 : decode cX8_laysRuns 198 = .ok (.iload_n 2, 1) := by decide +kernel
theorem dX8_laysRuns_199 : decode cX8_laysRuns 199 = .ok (.iconst 1, 1) := by decide +kernel
theorem dX8_laysRuns_200 : decode cX8_laysRuns 200 = .ok (.isub, 1) := by decide +kernel
theorem dX8_laysRuns_201 : decode cX8_laysRuns 201 = .ok (.istore_n 3, 1) := by decide +kernel
theorem dX8_laysRuns_202 : decode cX8_laysRuns 202 = .ok (.iload_n 3, 1) := by decide +kernel
theorem dX8_laysRuns_203 : decode cX8_laysRuns 203 = .ok (.ifCond .lt 37, 3) := by decide +kernel
theorem dX8_laysRuns_206 : decode cX8_laysRuns 206 = .ok (.iconst 0, 1) := by decide +kernel
theorem dX8_laysRuns_207 : decode cX8_laysRuns 207 = .ok (.istore 4, 2) := by decide +kernel
theorem dX8_laysRuns_209 : decode cX8_laysRuns 209 = .ok (.iload 4, 2) := by decide +kernel
theorem dX8_laysRuns_211 : decode cX8_laysRuns 211 = .ok (.aload_n 0, 1) := by decide +kernel
theorem dX8_laysRuns_212 : decode cX8_laysRuns 212 = .ok (.getfield 7, 3) := by decide +kernel
theorem dX8_laysRuns_215 : decode cX8_laysRuns 215 = .ok (.iconst 0, 1) := by decide +kernel
theorem dX8_laysRuns_216 : decode cX8_laysRuns 216 = .ok (.iaload, 1) := by decide +kernel
theorem dX8_laysRuns_217 : decode cX8_laysRuns 217 = .ok (.if_icmp .ge 17, 3) := by decide +kernel
theorem dX8_laysRuns_220 : decode cX8_laysRuns 220 = .ok (.aload_n 0, 1) := by decide +kernel
theorem dX8_laysRuns_221 : decode cX8_laysRuns 221 = .ok (.iload_n 1, 1) := by decide +kernel
theorem dX8_laysRuns_222 : decode cX8_laysRuns 222 = .ok (.iload_n 3, 1) := by decide +kernel
theorem dX8_laysRuns_223 : decode cX8_laysRuns 223 = .ok (.iload 4, 2) := by decide +kernel
theorem dX8_laysRuns_225 : decode cX8_laysRuns 225 = .ok (.invokevirtual 79, 3) := by decide +kernel
theorem dX8_laysRuns_228 : decode cX8_laysRuns 228 = .ok (.iinc 4 1, 3) := by decide +kernel
theorem dX8_laysRuns_231 : decode cX8_laysRuns 231 = .ok (.goto (-22), 3) := by decide +kernel
theorem dX8_laysRuns_234 : decode cX8_laysRuns 234 = .ok (.iinc 3 (-1), 3) := by decide +kernel
theorem dX8_laysRuns_237 : decode cX8_laysRuns 237 = .ok (.goto (-35), 3) := by decide +kernel
theorem dX8_laysRuns_240 : decode cX8_laysRuns 240 = .ok (.return_, 1) := by decide +kernel
end
section
theorem dX8_step_0 : decode cX8_step 0 = .ok (.aload_n 0, 1) := by decide +kernel
theorem dX8_step_1 : decode cX8_step 1 = .ok (.iload_n 3, 1) := by decide +kernel
theorem dX8_step_2 : decode cX8_step 2 = .ok (.iload 4, 2) := by decide +kernel
theorem dX8_step_4 : decode cX8_step 4 = .ok (.invokevirtual 76, 3) := by decide +kernel
theorem dX8_step_7 : decode cX8_step 7 = .ok (.i2l, 1) := by decide +kernel
theorem dX8_step_8 : decode cX8_step 8 = .ok (.aload_n 0, 1) := by decide +kernel
theorem dX8_step_9 : decode cX8_step 9 = .ok (.iload 4, 2) := by decide +kernel
theorem dX8_step_11 : decode cX8_step 11 = .ok (.aload_n 0, 1) := by decide +kernel
theorem dX8_step_12 : decode cX8_step 12 = .ok (.iload_n 1, 1) := by decide +kernel
theorem dX8_step_13 : decode cX8_step 13 = .ok (.iload_n 2, 1) := by decide +kernel
theorem dX8_step_14 : decode cX8_step 14 = .ok (.iconst 1, 1) := by decide +kernel
theorem dX8_step_15 : decode cX8_step 15 = .ok (.iadd, 1) := by decide +kernel
theorem dX8_step_16 : decode cX8_step 16 = .ok (.invokevirtual 69, 3) := by decide +kernel
theorem dX8_step_19 : decode cX8_step 19 = .ok (.invokevirtual 73, 3) := by decide +kernel
theorem dX8_step_22 : decode cX8_step 22 = .ok (.i2l, 1) := by decide +kernel
theorem dX8_step_23 : decode cX8_step 23 = .ok (.lmul, 1) := by decide +kernel
theorem dX8_step_24 : decode cX8_step 24 = .ok (.lreturn, 1) := by decide +kernel
theorem dX8_laysBehind_0 : decode cX8_laysBehind 0 = .ok (.lconst 0, 1) := by decide +kernel
theorem dX8_laysBehind_1 : decode cX8_laysBehind 1 = .ok (.lstore 4, 2) := by decide +kernel
theorem dX8_laysBehind_3 : decode cX8_laysBehind 3 = .ok (.lconst 0, 1) := by decide +kernel
theorem dX8_laysBehind_4 : decode cX8_laysBehind 4 = .ok (.lstore 6, 2) := by decide +kernel
theorem dX8_laysBehind_6 : decode cX8_laysBehind 6 = .ok (.lconst 0, 1) := by decide +kernel
theorem dX8_laysBehind_7 : decode cX8_laysBehind 7 = .ok (.lstore 8, 2) := by decide +kernel
theorem dX8_laysBehind_9 : decode cX8_laysBehind 9 = .ok (.iconst 0, 1) := by decide +kernel
theorem dX8_laysBehind_10 : decode cX8_laysBehind 10 = .ok (.istore 10, 2) := by decide +kernel
theorem dX8_laysBehind_12 : decode cX8_laysBehind 12 = .ok (.iload 10, 2) := by decide +kernel
theorem dX8_laysBehind_14 : decode cX8_laysBehind 14 = .ok (.aload_n 0, 1) := by decide +kernel
theorem dX8_laysBehind_15 : decode cX8_laysBehind 15 = .ok (.getfield 7, 3) := by decide +kernel
theorem dX8_laysBehind_18 : decode cX8_laysBehind 18 = .ok (.iconst 0, 1) := by decide +kernel
theorem dX8_laysBehind_19 : decode cX8_laysBehind 19 = .ok (.iaload, 1) := by decide +kernel
theorem dX8_laysBehind_20 : decode cX8_laysBehind 20 = .ok (.if_icmp .ge 105, 3) := by decide +kernel
theorem dX8_laysBehind_23 : decode cX8_laysBehind 23 = .ok (.aload_n 0, 1) := by decide +kernel
theorem dX8_laysBehind_24 : decode cX8_laysBehind 24 = .ok (.iload_n 1, 1) := by decide +kernel
theorem dX8_laysBehind_25 : decode cX8_laysBehind 25 = .ok (.iload_n 2, 1) := by decide +kernel
theorem dX8_laysBehind_26 : decode cX8_laysBehind 26 = .ok (.iload_n 3, 1) := by decide +kernel
theorem dX8_laysBehind_27 : decode cX8_laysBehind 27 = .ok (.iload 10, 2) := by decide +kernel
theorem dX8_laysBehind_29 : decode cX8_laysBehind 29 = .ok (.invokevirtual 83, 3) := by decide +kernel
theorem dX8_laysBehind_32 : decode cX8_laysBehind 32 = .ok (.lstore 11, 2) := by decide +kernel
theorem dX8_laysBehind_34 : decode cX8_laysBehind 34 = .ok (.lload 11, 2) := by decide +kernel
theorem dX8_laysBehind_36 : decode cX8_laysBehind 36 = .ok (.aload_n 0, 1) := by decide +kernel
theorem dX8_laysBehind_37 : decode cX8_laysBehind 37 = .ok (.getfield 32, 3) := by decide +kernel
theorem dX8_laysBehind_40 : decode cX8_laysBehind 40 = .ok (.iconst 4, 1) := by decide +kernel
theorem dX8_laysBehind_41 : decode cX8_laysBehind 41 = .ok (.iload_n 2, 1) := by decide +kernel
theorem dX8_laysBehind_42 : decode cX8_laysBehind 42 = .ok (.imul, 1) := by decide +kernel
theorem dX8_laysBehind_43 : decode cX8_laysBehind 43 = .ok (.iconst 4, 1) := by decide +kernel
theorem dX8_laysBehind_44 : decode cX8_laysBehind 44 = .ok (.iadd, 1) := by decide +kernel
theorem dX8_laysBehind_45 : decode cX8_laysBehind 45 = .ok (.iload 10, 2) := by decide +kernel
theorem dX8_laysBehind_47 : decode cX8_laysBehind 47 = .ok (.iadd, 1) := by decide +kernel
theorem dX8_laysBehind_48 : decode cX8_laysBehind 48 = .ok (.laload, 1) := by decide +kernel
theorem dX8_laysBehind_49 : decode cX8_laysBehind 49 = .ok (.lmul, 1) := by decide +kernel
theorem dX8_laysBehind_50 : decode cX8_laysBehind 50 = .ok (.lstore 13, 2) := by decide +kernel
theorem dX8_laysBehind_52 : decode cX8_laysBehind 52 = .ok (.lload 4, 2) := by decide +kernel
theorem dX8_laysBehind_54 : decode cX8_laysBehind 54 = .ok (.lload 11, 2) := by decide +kernel
theorem dX8_laysBehind_56 : decode cX8_laysBehind 56 = .ok (.aload_n 0, 1) := by decide +kernel
theorem dX8_laysBehind_57 : decode cX8_laysBehind 57 = .ok (.getfield 29, 3) := by decide +kernel
theorem dX8_laysBehind_60 : decode cX8_laysBehind 60 = .ok (.iconst 4, 1) := by decide +kernel
theorem dX8_laysBehind_61 : decode cX8_laysBehind 61 = .ok (.iload_n 2, 1) := by decide +kernel
theorem dX8_laysBehind_62 : decode cX8_laysBehind 62 = .ok (.imul, 1) := by decide +kernel
theorem dX8_laysBehind_63 : decode cX8_laysBehind 63 = .ok (.iconst 4, 1) := by decide +kernel
theorem dX8_laysBehind_64 : decode cX8_laysBehind 64 = .ok (.iadd, 1) := by decide +kernel
theorem dX8_laysBehind_65 : decode cX8_laysBehind 65 = .ok (.iload 10, 2) := by decide +kernel
theorem dX8_laysBehind_67 : decode cX8_laysBehind 67 = .ok (.iadd, 1) := by decide +kernel
theorem dX8_laysBehind_68 : decode cX8_laysBehind 68 = .ok (.laload, 1) := by decide +kernel
theorem dX8_laysBehind_69 : decode cX8_laysBehind 69 = .ok (.lmul, 1) := by decide +kernel
theorem dX8_laysBehind_70 : decode cX8_laysBehind 70 = .ok (.ladd, 1) := by decide +kernel
theorem dX8_laysBehind_71 : decode cX8_laysBehind 71 = .ok (.lstore 4, 2) := by decide +kernel
theorem dX8_laysBehind_73 : decode cX8_laysBehind 73 = .ok (.lload 13, 2) := by decide +kernel
theorem dX8_laysBehind_75 : decode cX8_laysBehind 75 = .ok (.lload 6, 2) := by decide +kernel
theorem dX8_laysBehind_77 : decode cX8_laysBehind 77 = .ok (.lcmp, 1) := by decide +kernel
theorem dX8_laysBehind_78 : decode cX8_laysBehind 78 = .ok (.ifCond .le 8, 3) := by decide +kernel
theorem dX8_laysBehind_81 : decode cX8_laysBehind 81 = .ok (.lload 13, 2) := by decide +kernel
theorem dX8_laysBehind_83 : decode cX8_laysBehind 83 = .ok (.goto 5, 3) := by decide +kernel
theorem dX8_laysBehind_86 : decode cX8_laysBehind 86 = .ok (.lload 6, 2) := by decide +kernel
theorem dX8_laysBehind_88 : decode cX8_laysBehind 88 = .ok (.lstore 6, 2) := by decide +kernel
theorem dX8_laysBehind_90 : decode cX8_laysBehind 90 = .ok (.lload 8, 2) := by decide +kernel
theorem dX8_laysBehind_92 : decode cX8_laysBehind 92 = .ok (.lload 11, 2) := by decide +kernel
theorem dX8_laysBehind_94 : decode cX8_laysBehind 94 = .ok (.lconst 0, 1) := by decide +kernel
theorem dX8_laysBehind_95 : decode cX8_laysBehind 95 = .ok (.lcmp, 1) := by decide +kernel
theorem dX8_laysBehind_96 : decode cX8_laysBehind 96 = .ok (.ifCond .le 19, 3) := by decide +kernel
theorem dX8_laysBehind_99 : decode cX8_laysBehind 99 = .ok (.aload_n 0, 1) := by decide +kernel
theorem dX8_laysBehind_100 : decode cX8_laysBehind 100 = .ok (.getfield 35, 3) := by decide +kernel
theorem dX8_laysBehind_103 : decode cX8_laysBehind 103 = .ok (.iconst 4, 1) := by decide +kernel
theorem dX8_laysBehind_104 : decode cX8_laysBehind 104 = .ok (.iload_n 2, 1) := by decide +kernel
theorem dX8_laysBehind_105 : decode cX8_laysBehind 105 = .ok (.imul, 1) := by decide +kernel
theorem dX8_laysBehind_106 : decode cX8_laysBehind 106 = .ok (.iconst 4, 1) := by decide +kernel
theorem dX8_laysBehind_107 : decode cX8_laysBehind 107 = .ok (.iadd, 1) := by decide +kernel
theorem dX8_laysBehind_108 : decode cX8_laysBehind 108 = .ok (.iload 10, 2) := by decide +kernel
theorem dX8_laysBehind_110 : decode cX8_laysBehind 110 = .ok (.iadd, 1) := by decide +kernel
theorem dX8_laysBehind_111 : decode cX8_laysBehind 111 = .ok (.laload, 1) := by decide +kernel
theorem dX8_laysBehind_112 : decode cX8_laysBehind 112 = .ok (.goto 4, 3) := by decide +kernel
theorem dX8_laysBehind_115 : decode cX8_laysBehind 115 = .ok (.lconst 0, 1) := by decide +kernel
theorem dX8_laysBehind_116 : decode cX8_laysBehind 116 = .ok (.ladd, 1) := by decide +kernel
theorem dX8_laysBehind_117 : decode cX8_laysBehind 117 = .ok (.lstore 8, 2) := by decide +kernel
theorem dX8_laysBehind_119 : decode cX8_laysBehind 119 = .ok (.iinc 10 1, 3) := by decide +kernel
theorem dX8_laysBehind_122 : decode cX8_laysBehind 122 = .ok (.goto (-110), 3) := by decide +kernel
theorem dX8_laysBehind_125 : decode cX8_laysBehind 125 = .ok (.aload_n 0, 1) := by decide +kernel
theorem dX8_laysBehind_126 : decode cX8_laysBehind 126 = .ok (.getfield 29, 3) := by decide +kernel
theorem dX8_laysBehind_129 : decode cX8_laysBehind 129 = .ok (.iconst 4, 1) := by decide +kernel
theorem dX8_laysBehind_130 : decode cX8_laysBehind 130 = .ok (.iload_n 2, 1) := by decide +kernel
theorem dX8_laysBehind_131 : decode cX8_laysBehind 131 = .ok (.imul, 1) := by decide +kernel
theorem dX8_laysBehind_132 : decode cX8_laysBehind 132 = .ok (.iload_n 3, 1) := by decide +kernel
theorem dX8_laysBehind_133 : decode cX8_laysBehind 133 = .ok (.iadd, 1) := by decide +kernel
theorem dX8_laysBehind_134 : decode cX8_laysBehind 134 = .ok (.lload 4, 2) := by decide +kernel
theorem dX8_laysBehind_136 : decode cX8_laysBehind 136 = .ok (.lastore, 1) := by decide +kernel
theorem dX8_laysBehind_137 : decode cX8_laysBehind 137 = .ok (.aload_n 0, 1) := by decide +kernel
theorem dX8_laysBehind_138 : decode cX8_laysBehind 138 = .ok (.getfield 32, 3) := by decide +kernel
theorem dX8_laysBehind_141 : decode cX8_laysBehind 141 = .ok (.iconst 4, 1) := by decide +kernel
theorem dX8_laysBehind_142 : decode cX8_laysBehind 142 = .ok (.iload_n 2, 1) := by decide +kernel
theorem dX8_laysBehind_143 : decode cX8_laysBehind 143 = .ok (.imul, 1) := by decide +kernel
theorem dX8_laysBehind_144 : decode cX8_laysBehind 144 = .ok (.iload_n 3, 1) := by decide +kernel
theorem dX8_laysBehind_145 : decode cX8_laysBehind 145 = .ok (.iadd, 1) := by decide +kernel
theorem dX8_laysBehind_146 : decode cX8_laysBehind 146 = .ok (.lload 6, 2) := by decide +kernel
theorem dX8_laysBehind_148 : decode cX8_laysBehind 148 = .ok (.lastore, 1) := by decide +kernel
theorem dX8_laysBehind_149 : decode cX8_laysBehind 149 = .ok (.aload_n 0, 1) := by decide +kernel
theorem dX8_laysBehind_150 : decode cX8_laysBehind 150 = .ok (.getfield 35, 3) := by decide +kernel
theorem dX8_laysBehind_153 : decode cX8_laysBehind 153 = .ok (.iconst 4, 1) := by decide +kernel
theorem dX8_laysBehind_154 : decode cX8_laysBehind 154 = .ok (.iload_n 2, 1) := by decide +kernel
theorem dX8_laysBehind_155 : decode cX8_laysBehind 155 = .ok (.imul, 1) := by decide +kernel
theorem dX8_laysBehind_156 : decode cX8_laysBehind 156 = .ok (.iload_n 3, 1) := by decide +kernel
theorem dX8_laysBehind_157 : decode cX8_laysBehind 157 = .ok (.iadd, 1) := by decide +kernel
theorem dX8_laysBehind_158 : decode cX8_laysBehind 158 = .ok (.lload 8, 2) := by decide +kernel
theorem dX8_laysBehind_160 : decode cX8_laysBehind 160 = .ok (.lastore, 1) := by decide +kernel
theorem dX8_laysBehind_161 : decode cX8_laysBehind 161 = .ok (.return_, 1) := by decide +kernel
theorem dX8_weightAt_0 : decode cX8_weightAt 0 = .ok (.aload_n 0, 1) := by decide +kernel
theorem dX8_weightAt_1 : decode cX8_weightAt 1 = .ok (.getfield 25, 3) := by decide +kernel
theorem dX8_weightAt_4 : decode cX8_weightAt 4 = .ok (.iconst 4, 1) := by decide +kernel
theorem dX8_weightAt_5 : decode cX8_weightAt 5 = .ok (.iload_n 1, 1) := by decide +kernel
theorem dX8_weightAt_6 : decode cX8_weightAt 6 = .ok (.imul, 1) := by decide +kernel
theorem dX8_weightAt_7 : decode cX8_weightAt 7 = .ok (.iload_n 2, 1) := by decide +kernel
theorem dX8_weightAt_8 : decode cX8_weightAt 8 = .ok (.iadd, 1) := by decide +kernel
theorem dX8_weightAt_9 : decode cX8_weightAt 9 = .ok (.laload, 1) := by decide +kernel
theorem dX8_weightAt_10 : decode cX8_weightAt 10 = .ok (.aload_n 0, 1) := by decide +kernel
theorem dX8_weightAt_11 : decode cX8_weightAt 11 = .ok (.getfield 29, 3) := by decide +kernel
theorem dX8_weightAt_14 : decode cX8_weightAt 14 = .ok (.iconst 4, 1) := by decide +kernel
theorem dX8_weightAt_15 : decode cX8_weightAt 15 = .ok (.iload_n 1, 1) := by decide +kernel
theorem dX8_weightAt_16 : decode cX8_weightAt 16 = .ok (.imul, 1) := by decide +kernel
theorem dX8_weightAt_17 : decode cX8_weightAt 17 = .ok (.iload_n 2, 1) := by decide +kernel
theorem dX8_weightAt_18 : decode cX8_weightAt 18 = .ok (.iadd, 1) := by decide +kernel
theorem dX8_weightAt_19 : decode cX8_weightAt 19 = .ok (.laload, 1) := by decide +kernel
theorem dX8_weightAt_20 : decode cX8_weightAt 20 = .ok (.lmul, 1) := by decide +kernel
theorem dX8_weightAt_21 : decode cX8_weightAt 21 = .ok (.lreturn, 1) := by decide +kernel
theorem dX8_total_0 : decode cX8_total 0 = .ok (.lconst 0, 1) := by decide +kernel
theorem dX8_total_1 : decode cX8_total 1 = .ok (.lstore_n 1, 1) := by decide +kernel
theorem dX8_total_2 : decode cX8_total 2 = .ok (.iconst 0, 1) := by decide +kernel
theorem dX8_total_3 : decode cX8_total 3 = .ok (.istore_n 3, 1) := by decide +kernel
theorem dX8_total_4 : decode cX8_total 4 = .ok (.iload_n 3, 1) := by decide +kernel
theorem dX8_total_5 : decode cX8_total 5 = .ok (.aload_n 0, 1) := by decide +kernel
theorem dX8_total_6 : decode cX8_total 6 = .ok (.getfield 7, 3) := by decide +kernel
theorem dX8_total_9 : decode cX8_total 9 = .ok (.iconst 0, 1) := by decide +kernel
theorem dX8_total_10 : decode cX8_total 10 = .ok (.iaload, 1) := by decide +kernel
theorem dX8_total_11 : decode cX8_total 11 = .ok (.if_icmp .ge 18, 3) := by decide +kernel
theorem dX8_total_14 : decode cX8_total 14 = .ok (.lload_n 1, 1) := by decide +kernel
theorem dX8_total_15 : decode cX8_total 15 = .ok (.aload_n 0, 1) := by decide +kernel
theorem dX8_total_16 : decode cX8_total 16 = .ok (.iconst 0, 1) := by decide +kernel
theorem dX8_total_17 : decode cX8_total 17 = .ok (.iload_n 3, 1) := by decide +kernel
theorem dX8_total_18 : decode cX8_total 18 = .ok (.invokevirtual 87, 3) := by decide +kernel
theorem dX8_total_21 : decode cX8_total 21 = .ok (.ladd, 1) := by decide +kernel
theorem dX8_total_22 : decode cX8_total 22 = .ok (.lstore_n 1, 1) := by decide +kernel
theorem dX8_total_23 : decode cX8_total 23 = .ok (.iinc 3 1, 3) := by decide +kernel
theorem dX8_total_26 : decode cX8_total 26 = .ok (.goto (-22), 3) := by decide +kernel
theorem dX8_total_29 : decode cX8_total 29 = .ok (.lload_n 1, 1) := by decide +kernel
theorem dX8_total_30 : decode cX8_total 30 = .ok (.lreturn, 1) := by decide +kernel
theorem dX8_runsThatCount_0 : decode cX8_runsThatCount 0 = .ok (.lconst 0, 1) := by decide +kernel
theorem dX8_runsThatCount_1 : decode cX8_runsThatCount 1 = .ok (.lstore_n 1, 1) := by decide +kernel
theorem dX8_runsThatCount_2 : decode cX8_runsThatCount 2 = .ok (.iconst 0, 1) := by decide +kernel
theorem dX8_runsThatCount_3 : decode cX8_runsThatCount 3 = .ok (.istore_n 3, 1) := by decide +kernel
theorem dX8_runsThatCount_4 : decode cX8_runsThatCount 4 = .ok (.iload_n 3, 1) := by decide +kernel
theorem dX8_runsThatCount_5 : decode cX8_runsThatCount 5 = .ok (.aload_n 0, 1) := by decide +kernel
theorem dX8_runsThatCount_6 : decode cX8_runsThatCount 6 = .ok (.getfield 7, 3) := by decide +kernel
theorem dX8_runsThatCount_9 : decode cX8_runsThatCount 9 = .ok (.iconst 0, 1) := by decide +kernel
theorem dX8_runsThatCount_10 : decode cX8_runsThatCount 10 = .ok (.iaload, 1) := by decide +kernel
theorem dX8_runsThatCount_11 : decode cX8_runsThatCount 11 = .ok (.if_icmp .ge 33, 3) := by decide +kernel
theorem dX8_runsThatCount_14 : decode cX8_runsThatCount 14 = .ok (.lload_n 1, 1) := by decide +kernel
theorem dX8_runsThatCount_15 : decode cX8_runsThatCount 15 = .ok (.aload_n 0, 1) := by decide +kernel
theorem dX8_runsThatCount_16 : decode cX8_runsThatCount 16 = .ok (.getfield 25, 3) := by decide +kernel
theorem dX8_runsThatCount_19 : decode cX8_runsThatCount 19 = .ok (.iload_n 3, 1) := by decide +kernel
theorem dX8_runsThatCount_20 : decode cX8_runsThatCount 20 = .ok (.laload, 1) := by decide +kernel
theorem dX8_runsThatCount_21 : decode cX8_runsThatCount 21 = .ok (.lconst 0, 1) := by decide +kernel
theorem dX8_runsThatCount_22 : decode cX8_runsThatCount 22 = .ok (.lcmp, 1) := by decide +kernel
theorem dX8_runsThatCount_23 : decode cX8_runsThatCount 23 = .ok (.ifCond .le 12, 3) := by decide +kernel
theorem dX8_runsThatCount_26 : decode cX8_runsThatCount 26 = .ok (.aload_n 0, 1) := by decide +kernel
theorem dX8_runsThatCount_27 : decode cX8_runsThatCount 27 = .ok (.getfield 35, 3) := by decide +kernel
theorem dX8_runsThatCount_30 : decode cX8_runsThatCount 30 = .ok (.iload_n 3, 1) := by decide +kernel
theorem dX8_runsThatCount_31 : decode cX8_runsThatCount 31 = .ok (.laload, 1) := by decide +kernel
theorem dX8_runsThatCount_32 : decode cX8_runsThatCount 32 = .ok (.goto 4, 3) := by decide +kernel
theorem dX8_runsThatCount_35 : decode cX8_runsThatCount 35 = .ok (.lconst 0, 1) := by decide +kernel
theorem dX8_runsThatCount_36 : decode cX8_runsThatCount 36 = .ok (.ladd, 1) := by decide +kernel
theorem dX8_runsThatCount_37 : decode cX8_runsThatCount 37 = .ok (.lstore_n 1, 1) := by decide +kernel
theorem dX8_runsThatCount_38 : decode cX8_runsThatCount 38 = .ok (.iinc 3 1, 3) := by decide +kernel
theorem dX8_runsThatCount_41 : decode cX8_runsThatCount 41 = .ok (.goto (-37), 3) := by decide +kernel
theorem dX8_runsThatCount_44 : decode cX8_runsThatCount 44 = .ok (.lload_n 1, 1) := by decide +kernel
theorem dX8_runsThatCount_45 : decode cX8_runsThatCount 45 = .ok (.lreturn, 1) := by decide +kernel
theorem dX8_bestWeight_0 : decode cX8_bestWeight 0 = .ok (.lconst 0, 1) := by decide +kernel
theorem dX8_bestWeight_1 : decode cX8_bestWeight 1 = .ok (.lstore_n 1, 1) := by decide +kernel
theorem dX8_bestWeight_2 : decode cX8_bestWeight 2 = .ok (.iconst 0, 1) := by decide +kernel
theorem dX8_bestWeight_3 : decode cX8_bestWeight 3 = .ok (.istore_n 3, 1) := by decide +kernel
theorem dX8_bestWeight_4 : decode cX8_bestWeight 4 = .ok (.iload_n 3, 1) := by decide +kernel
theorem dX8_bestWeight_5 : decode cX8_bestWeight 5 = .ok (.aload_n 0, 1) := by decide +kernel
theorem dX8_bestWeight_6 : decode cX8_bestWeight 6 = .ok (.getfield 7, 3) := by decide +kernel
theorem dX8_bestWeight_9 : decode cX8_bestWeight 9 = .ok (.iconst 0, 1) := by decide +kernel
theorem dX8_bestWeight_10 : decode cX8_bestWeight 10 = .ok (.iaload, 1) := by decide +kernel
theorem dX8_bestWeight_11 : decode cX8_bestWeight 11 = .ok (.if_icmp .ge 38, 3) := by decide +kernel
theorem dX8_bestWeight_14 : decode cX8_bestWeight 14 = .ok (.aload_n 0, 1) := by decide +kernel
theorem dX8_bestWeight_15 : decode cX8_bestWeight 15 = .ok (.getfield 25, 3) := by decide +kernel
theorem dX8_bestWeight_18 : decode cX8_bestWeight 18 = .ok (.iload_n 3, 1) := by decide +kernel
theorem dX8_bestWeight_19 : decode cX8_bestWeight 19 = .ok (.laload, 1) := by decide +kernel
theorem dX8_bestWeight_20 : decode cX8_bestWeight 20 = .ok (.aload_n 0, 1) := by decide +kernel
theorem dX8_bestWeight_21 : decode cX8_bestWeight 21 = .ok (.getfield 32, 3) := by decide +kernel
theorem dX8_bestWeight_24 : decode cX8_bestWeight 24 = .ok (.iload_n 3, 1) := by decide +kernel
theorem dX8_bestWeight_25 : decode cX8_bestWeight 25 = .ok (.laload, 1) := by decide +kernel
theorem dX8_bestWeight_26 : decode cX8_bestWeight 26 = .ok (.lmul, 1) := by decide +kernel
theorem dX8_bestWeight_27 : decode cX8_bestWeight 27 = .ok (.lstore 4, 2) := by decide +kernel
theorem dX8_bestWeight_29 : decode cX8_bestWeight 29 = .ok (.lload 4, 2) := by decide +kernel
theorem dX8_bestWeight_31 : decode cX8_bestWeight 31 = .ok (.lload_n 1, 1) := by decide +kernel
theorem dX8_bestWeight_32 : decode cX8_bestWeight 32 = .ok (.lcmp, 1) := by decide +kernel
theorem dX8_bestWeight_33 : decode cX8_bestWeight 33 = .ok (.ifCond .le 8, 3) := by decide +kernel
theorem dX8_bestWeight_36 : decode cX8_bestWeight 36 = .ok (.lload 4, 2) := by decide +kernel
theorem dX8_bestWeight_38 : decode cX8_bestWeight 38 = .ok (.goto 4, 3) := by decide +kernel
theorem dX8_bestWeight_41 : decode cX8_bestWeight 41 = .ok (.lload_n 1, 1) := by decide +kernel
theorem dX8_bestWeight_42 : decode cX8_bestWeight 42 = .ok (.lstore_n 1, 1) := by decide +kernel
theorem dX8_bestWeight_43 : decode cX8_bestWeight 43 = .ok (.iinc 3 1, 3) := by decide +kernel
theorem dX8_bestWeight_46 : decode cX8_bestWeight 46 = .ok (.goto (-42), 3) := by decide +kernel
theorem dX8_bestWeight_49 : decode cX8_bestWeight 49 = .ok (.lload_n 1, 1) := by decide +kernel
theorem dX8_bestWeight_50 : decode cX8_bestWeight 50 = .ok (.lreturn, 1) := by decide +kernel
theorem dX8_shareOf_0 : decode cX8_shareOf 0 = .ok (.lload_n 0, 1) := by decide +kernel
theorem dX8_shareOf_1 : decode cX8_shareOf 1 = .ok (.lload_n 2, 1) := by decide +kernel
theorem dX8_shareOf_2 : decode cX8_shareOf 2 = .ok (.ldiv, 1) := by decide +kernel
theorem dX8_shareOf_3 : decode cX8_shareOf 3 = .ok (.lstore 4, 2) := by decide +kernel
theorem dX8_shareOf_5 : decode cX8_shareOf 5 = .ok (.lload_n 0, 1) := by decide +kernel
theorem dX8_shareOf_6 : decode cX8_shareOf 6 = .ok (.lload_n 2, 1) := by decide +kernel
theorem dX8_shareOf_7 : decode cX8_shareOf 7 = .ok (.lrem, 1) := by decide +kernel
theorem dX8_shareOf_8 : decode cX8_shareOf 8 = .ok (.lstore 6, 2) := by decide +kernel
theorem dX8_shareOf_10 : decode cX8_shareOf 10 = .ok (.iconst 0, 1) := by decide +kernel
theorem dX8_shareOf_11 : decode cX8_shareOf 11 = .ok (.istore 8, 2) := by decide +kernel
theorem dX8_shareOf_13 : decode cX8_shareOf 13 = .ok (.iload 8, 2) := by decide +kernel
theorem dX8_shareOf_15 : decode cX8_shareOf 15 = .ok (.iconst 3, 1) := by decide +kernel
theorem dX8_shareOf_16 : decode cX8_shareOf 16 = .ok (.if_icmp .ge 36, 3) := by decide +kernel
theorem dX8_shareOf_19 : decode cX8_shareOf 19 = .ok (.lload 6, 2) := by decide +kernel
theorem dX8_shareOf_21 : decode cX8_shareOf 21 = .ok (.ldc2_w 91, 3) := by decide +kernel
theorem dX8_shareOf_24 : decode cX8_shareOf 24 = .ok (.lmul, 1) := by decide +kernel
theorem dX8_shareOf_25 : decode cX8_shareOf 25 = .ok (.lstore 6, 2) := by decide +kernel
theorem dX8_shareOf_27 : decode cX8_shareOf 27 = .ok (.ldc2_w 91, 3) := by decide +kernel
theorem dX8_shareOf_30 : decode cX8_shareOf 30 = .ok (.lload 4, 2) := by decide +kernel
theorem dX8_shareOf_32 : decode cX8_shareOf 32 = .ok (.lmul, 1) := by decide +kernel
theorem dX8_shareOf_33 : decode cX8_shareOf 33 = .ok (.lload 6, 2) := by decide +kernel
theorem dX8_shareOf_35 : decode cX8_shareOf 35 = .ok (.lload_n 2, 1) := by decide +kernel
theorem dX8_shareOf_36 : decode cX8_shareOf 36 = .ok (.ldiv, 1) := by decide +kernel
theorem dX8_shareOf_37 : decode cX8_shareOf 37 = .ok (.ladd, 1) := by decide +kernel
theorem dX8_shareOf_38 : decode cX8_shareOf 38 = .ok (.lstore 4, 2) := by decide +kernel
theorem dX8_shareOf_40 : decode cX8_shareOf 40 = .ok (.lload 6, 2) := by decide +kernel
theorem dX8_shareOf_42 : decode cX8_shareOf 42 = .ok (.lload_n 2, 1) := by decide +kernel
theorem dX8_shareOf_43 : decode cX8_shareOf 43 = .ok (.lrem, 1) := by decide +kernel
theorem dX8_shareOf_44 : decode cX8_shareOf 44 = .ok (.lstore 6, 2) := by decide +kernel
theorem dX8_shareOf_46 : decode cX8_shareOf 46 = .ok (.iinc 8 1, 3) := by decide +kernel
theorem dX8_shareOf_49 : decode cX8_shareOf 49 = .ok (.goto (-36), 3) := by decide +kernel
theorem dX8_shareOf_52 : decode cX8_shareOf 52 = .ok (.lload 4, 2) := by decide +kernel
theorem dX8_shareOf_54 : decode cX8_shareOf 54 = .ok (.l2i, 1) := by decide +kernel
theorem dX8_shareOf_55 : decode cX8_shareOf 55 = .ok (.ireturn, 1) := by decide +kernel
theorem dX8_bestAt_0 : decode cX8_bestAt 0 = .ok (.aload_n 0, 1) := by decide +kernel
theorem dX8_bestAt_1 : decode cX8_bestAt 1 = .ok (.invokevirtual 93, 3) := by decide +kernel
theorem dX8_bestAt_4 : decode cX8_bestAt 4 = .ok (.lstore_n 3, 1) := by decide +kernel
theorem dX8_bestAt_5 : decode cX8_bestAt 5 = .ok (.iconst 0, 1) := by decide +kernel
theorem dX8_bestAt_6 : decode cX8_bestAt 6 = .ok (.istore 5, 2) := by decide +kernel
theorem dX8_bestAt_8 : decode cX8_bestAt 8 = .ok (.aload_n 0, 1) := by decide +kernel
theorem dX8_bestAt_9 : decode cX8_bestAt 9 = .ok (.getfield 25, 3) := by decide +kernel
theorem dX8_bestAt_12 : decode cX8_bestAt 12 = .ok (.iload 5, 2) := by decide +kernel
theorem dX8_bestAt_14 : decode cX8_bestAt 14 = .ok (.laload, 1) := by decide +kernel
theorem dX8_bestAt_15 : decode cX8_bestAt 15 = .ok (.aload_n 0, 1) := by decide +kernel
theorem dX8_bestAt_16 : decode cX8_bestAt 16 = .ok (.getfield 32, 3) := by decide +kernel
theorem dX8_bestAt_19 : decode cX8_bestAt 19 = .ok (.iload 5, 2) := by decide +kernel
theorem dX8_bestAt_21 : decode cX8_bestAt 21 = .ok (.laload, 1) := by decide +kernel
theorem dX8_bestAt_22 : decode cX8_bestAt 22 = .ok (.lmul, 1) := by decide +kernel
theorem dX8_bestAt_23 : decode cX8_bestAt 23 = .ok (.lload_n 3, 1) := by decide +kernel
theorem dX8_bestAt_24 : decode cX8_bestAt 24 = .ok (.lcmp, 1) := by decide +kernel
theorem dX8_bestAt_25 : decode cX8_bestAt 25 = .ok (.ifCond .eq 9, 3) := by decide +kernel
theorem dX8_bestAt_28 : decode cX8_bestAt 28 = .ok (.iinc 5 1, 3) := by decide +kernel
theorem dX8_bestAt_31 : decode cX8_bestAt 31 = .ok (.goto (-23), 3) := by decide +kernel
theorem dX8_bestAt_34 : decode cX8_bestAt 34 = .ok (.iconst 0, 1) := by decide +kernel
theorem dX8_bestAt_35 : decode cX8_bestAt 35 = .ok (.istore 6, 2) := by decide +kernel
theorem dX8_bestAt_37 : decode cX8_bestAt 37 = .ok (.iload 6, 2) := by decide +kernel
theorem dX8_bestAt_39 : decode cX8_bestAt 39 = .ok (.iload_n 2, 1) := by decide +kernel
theorem dX8_bestAt_40 : decode cX8_bestAt 40 = .ok (.if_icmp .ge 64, 3) := by decide +kernel
theorem dX8_bestAt_43 : decode cX8_bestAt 43 = .ok (.iconst 0, 1) := by decide +kernel
theorem dX8_bestAt_44 : decode cX8_bestAt 44 = .ok (.istore 7, 2) := by decide +kernel
theorem dX8_bestAt_46 : decode cX8_bestAt 46 = .ok (.aload_n 0, 1) := by decide +kernel
theorem dX8_bestAt_47 : decode cX8_bestAt 47 = .ok (.iload_n 1, 1) := by decide +kernel
theorem dX8_bestAt_48 : decode cX8_bestAt 48 = .ok (.iload 6, 2) := by decide +kernel
theorem dX8_bestAt_50 : decode cX8_bestAt 50 = .ok (.iload 5, 2) := by decide +kernel
theorem dX8_bestAt_52 : decode cX8_bestAt 52 = .ok (.iload 7, 2) := by decide +kernel
theorem dX8_bestAt_54 : decode cX8_bestAt 54 = .ok (.invokevirtual 83, 3) := by decide +kernel
theorem dX8_bestAt_57 : decode cX8_bestAt 57 = .ok (.aload_n 0, 1) := by decide +kernel
theorem dX8_bestAt_58 : decode cX8_bestAt 58 = .ok (.getfield 32, 3) := by decide +kernel
theorem dX8_bestAt_61 : decode cX8_bestAt 61 = .ok (.iconst 4, 1) := by decide +kernel
theorem dX8_bestAt_62 : decode cX8_bestAt 62 = .ok (.iload 6, 2) := by decide +kernel
theorem dX8_bestAt_64 : decode cX8_bestAt 64 = .ok (.imul, 1) := by decide +kernel
theorem dX8_bestAt_65 : decode cX8_bestAt 65 = .ok (.iconst 4, 1) := by decide +kernel
theorem dX8_bestAt_66 : decode cX8_bestAt 66 = .ok (.iadd, 1) := by decide +kernel
theorem dX8_bestAt_67 : decode cX8_bestAt 67 = .ok (.iload 7, 2) := by decide +kernel
theorem dX8_bestAt_69 : decode cX8_bestAt 69 = .ok (.iadd, 1) := by decide +kernel
theorem dX8_bestAt_70 : decode cX8_bestAt 70 = .ok (.laload, 1) := by decide +kernel
theorem dX8_bestAt_71 : decode cX8_bestAt 71 = .ok (.lmul, 1) := by decide +kernel
theorem dX8_bestAt_72 : decode cX8_bestAt 72 = .ok (.aload_n 0, 1) := by decide +kernel
theorem dX8_bestAt_73 : decode cX8_bestAt 73 = .ok (.getfield 32, 3) := by decide +kernel
theorem dX8_bestAt_76 : decode cX8_bestAt 76 = .ok (.iconst 4, 1) := by decide +kernel
theorem dX8_bestAt_77 : decode cX8_bestAt 77 = .ok (.iload 6, 2) := by decide +kernel
theorem dX8_bestAt_79 : decode cX8_bestAt 79 = .ok (.imul, 1) := by decide +kernel
theorem dX8_bestAt_80 : decode cX8_bestAt 80 = .ok (.iload 5, 2) := by decide +kernel
theorem dX8_bestAt_82 : decode cX8_bestAt 82 = .ok (.iadd, 1) := by decide +kernel
theorem dX8_bestAt_83 : decode cX8_bestAt 83 = .ok (.laload, 1) := by decide +kernel
theorem dX8_bestAt_84 : decode cX8_bestAt 84 = .ok (.lcmp, 1) := by decide +kernel
theorem dX8_bestAt_85 : decode cX8_bestAt 85 = .ok (.ifCond .eq 9, 3) := by decide +kernel
theorem dX8_bestAt_88 : decode cX8_bestAt 88 = .ok (.iinc 7 1, 3) := by decide +kernel
theorem dX8_bestAt_91 : decode cX8_bestAt 91 = .ok (.goto (-45), 3) := by decide +kernel
theorem dX8_bestAt_94 : decode cX8_bestAt 94 = .ok (.iload 7, 2) := by decide +kernel
theorem dX8_bestAt_96 : decode cX8_bestAt 96 = .ok (.istore 5, 2) := by decide +kernel
theorem dX8_bestAt_98 : decode cX8_bestAt 98 = .ok (.iinc 6 1, 3) := by decide +kernel
theorem dX8_bestAt_101 : decode cX8_bestAt 101 = .ok (.goto (-64), 3) := by decide +kernel
theorem dX8_bestAt_104 : decode cX8_bestAt 104 = .ok (.iload 5, 2) := by decide +kernel
theorem dX8_bestAt_106 : decode cX8_bestAt 106 = .ok (.ireturn, 1) := by decide +kernel
theorem dX8_runAt_0 : decode cX8_runAt 0 = .ok (.iload_n 2, 1) := by decide +kernel
theorem dX8_runAt_1 : decode cX8_runAt 1 = .ok (.i2l, 1) := by decide +kernel
theorem dX8_runAt_2 : decode cX8_runAt 2 = .ok (.lstore 4, 2) := by decide +kernel
theorem dX8_runAt_4 : decode cX8_runAt 4 = .ok (.iconst 0, 1) := by decide +kernel
theorem dX8_runAt_5 : decode cX8_runAt 5 = .ok (.istore 6, 2) := by decide +kernel
theorem dX8_runAt_7 : decode cX8_runAt 7 = .ok (.aload_n 0, 1) := by decide +kernel
theorem dX8_runAt_8 : decode cX8_runAt 8 = .ok (.getfield 25, 3) := by decide +kernel
theorem dX8_runAt_11 : decode cX8_runAt 11 = .ok (.iload 6, 2) := by decide +kernel
theorem dX8_runAt_13 : decode cX8_runAt 13 = .ok (.laload, 1) := by decide +kernel
theorem dX8_runAt_14 : decode cX8_runAt 14 = .ok (.lconst 0, 1) := by decide +kernel
theorem dX8_runAt_15 : decode cX8_runAt 15 = .ok (.lcmp, 1) := by decide +kernel
theorem dX8_runAt_16 : decode cX8_runAt 16 = .ok (.ifCond .eq 16, 3) := by decide +kernel
theorem dX8_runAt_19 : decode cX8_runAt 19 = .ok (.lload 4, 2) := by decide +kernel
theorem dX8_runAt_21 : decode cX8_runAt 21 = .ok (.aload_n 0, 1) := by decide +kernel
theorem dX8_runAt_22 : decode cX8_runAt 22 = .ok (.getfield 35, 3) := by decide +kernel
theorem dX8_runAt_25 : decode cX8_runAt 25 = .ok (.iload 6, 2) := by decide +kernel
theorem dX8_runAt_27 : decode cX8_runAt 27 = .ok (.laload, 1) := by decide +kernel
theorem dX8_runAt_28 : decode cX8_runAt 28 = .ok (.lcmp, 1) := by decide +kernel
theorem dX8_runAt_29 : decode cX8_runAt 29 = .ok (.ifCond .lt 37, 3) := by decide +kernel
theorem dX8_runAt_32 : decode cX8_runAt 32 = .ok (.lload 4, 2) := by decide +kernel
theorem dX8_runAt_34 : decode cX8_runAt 34 = .ok (.aload_n 0, 1) := by decide +kernel
theorem dX8_runAt_35 : decode cX8_runAt 35 = .ok (.getfield 25, 3) := by decide +kernel
theorem dX8_runAt_38 : decode cX8_runAt 38 = .ok (.iload 6, 2) := by decide +kernel
theorem dX8_runAt_40 : decode cX8_runAt 40 = .ok (.laload, 1) := by decide +kernel
theorem dX8_runAt_41 : decode cX8_runAt 41 = .ok (.lconst 0, 1) := by decide +kernel
theorem dX8_runAt_42 : decode cX8_runAt 42 = .ok (.lcmp, 1) := by decide +kernel
theorem dX8_runAt_43 : decode cX8_runAt 43 = .ok (.ifCond .le 13, 3) := by decide +kernel
theorem dX8_runAt_46 : decode cX8_runAt 46 = .ok (.aload_n 0, 1) := by decide +kernel
theorem dX8_runAt_47 : decode cX8_runAt 47 = .ok (.getfield 35, 3) := by decide +kernel
theorem dX8_runAt_50 : decode cX8_runAt 50 = .ok (.iload 6, 2) := by decide +kernel
theorem dX8_runAt_52 : decode cX8_runAt 52 = .ok (.laload, 1) := by decide +kernel
theorem dX8_runAt_53 : decode cX8_runAt 53 = .ok (.goto 4, 3) := by decide +kernel
theorem dX8_runAt_56 : decode cX8_runAt 56 = .ok (.lconst 0, 1) := by decide +kernel
theorem dX8_runAt_57 : decode cX8_runAt 57 = .ok (.lsub, 1) := by decide +kernel
theorem dX8_runAt_58 : decode cX8_runAt 58 = .ok (.lstore 4, 2) := by decide +kernel
theorem dX8_runAt_60 : decode cX8_runAt 60 = .ok (.iinc 6 1, 3) := by decide +kernel
theorem dX8_runAt_63 : decode cX8_runAt 63 = .ok (.goto (-56), 3) := by decide +kernel
theorem dX8_runAt_66 : decode cX8_runAt 66 = .ok (.iconst 0, 1) := by decide +kernel
theorem dX8_runAt_67 : decode cX8_runAt 67 = .ok (.istore 7, 2) := by decide +kernel
theorem dX8_runAt_69 : decode cX8_runAt 69 = .ok (.iload 7, 2) := by decide +kernel
theorem dX8_runAt_71 : decode cX8_runAt 71 = .ok (.iload_n 3, 1) := by decide +kernel
theorem dX8_runAt_72 : decode cX8_runAt 72 = .ok (.if_icmp .ge 120, 3) := by decide +kernel
theorem dX8_runAt_75 : decode cX8_runAt 75 = .ok (.iconst 0, 1) := by decide +kernel
theorem dX8_runAt_76 : decode cX8_runAt 76 = .ok (.istore 8, 2) := by decide +kernel
theorem dX8_runAt_78 : decode cX8_runAt 78 = .ok (.aload_n 0, 1) := by decide +kernel
theorem dX8_runAt_79 : decode cX8_runAt 79 = .ok (.iload_n 1, 1) := by decide +kernel
theorem dX8_runAt_80 : decode cX8_runAt 80 = .ok (.iload 7, 2) := by decide +kernel
theorem dX8_runAt_82 : decode cX8_runAt 82 = .ok (.iload 6, 2) := by decide +kernel
theorem dX8_runAt_84 : decode cX8_runAt 84 = .ok (.iconst 0, 1) := by decide +kernel
theorem dX8_runAt_85 : decode cX8_runAt 85 = .ok (.invokevirtual 83, 3) := by decide +kernel
theorem dX8_runAt_88 : decode cX8_runAt 88 = .ok (.lconst 0, 1) := by decide +kernel
theorem dX8_runAt_89 : decode cX8_runAt 89 = .ok (.lcmp, 1) := by decide +kernel
theorem dX8_runAt_90 : decode cX8_runAt 90 = .ok (.ifCond .le 7, 3) := by decide +kernel
theorem dX8_runAt_93 : decode cX8_runAt 93 = .ok (.iconst 1, 1) := by decide +kernel
theorem dX8_runAt_94 : decode cX8_runAt 94 = .ok (.goto 4, 3) := by decide +kernel
theorem dX8_runAt_97 : decode cX8_runAt 97 = .ok (.iconst 0, 1) := by decide +kernel
theorem dX8_runAt_98 : decode cX8_runAt 98 = .ok (.istore 9, 2) := by decide +kernel
theorem dX8_runAt_100 : decode cX8_runAt 100 = .ok (.iload 9, 2) := by decide +kernel
theorem dX8_runAt_102 : decode cX8_runAt 102 = .ok (.ifCond .eq 23, 3) := by decide +kernel
theorem dX8_runAt_105 : decode cX8_runAt 105 = .ok (.lload 4, 2) := by decide +kernel
theorem dX8_runAt_107 : decode cX8_runAt 107 = .ok (.aload_n 0, 1) := by decide +kernel
theorem dX8_runAt_108 : decode cX8_runAt 108 = .ok (.getfield 35, 3) := by decide +kernel
theorem dX8_runAt_111 : decode cX8_runAt 111 = .ok (.iconst 4, 1) := by decide +kernel
theorem dX8_runAt_112 : decode cX8_runAt 112 = .ok (.iload 7, 2) := by decide +kernel
theorem dX8_runAt_114 : decode cX8_runAt 114 = .ok (.imul, 1) := by decide +kernel
theorem dX8_runAt_115 : decode cX8_runAt 115 = .ok (.iconst 4, 1) := by decide +kernel
theorem dX8_runAt_116 : decode cX8_runAt 116 = .ok (.iadd, 1) := by decide +kernel
theorem dX8_runAt_117 : decode cX8_runAt 117 = .ok (.iload 8, 2) := by decide +kernel
theorem dX8_runAt_119 : decode cX8_runAt 119 = .ok (.iadd, 1) := by decide +kernel
theorem dX8_runAt_120 : decode cX8_runAt 120 = .ok (.laload, 1) := by decide +kernel
theorem dX8_runAt_121 : decode cX8_runAt 121 = .ok (.lcmp, 1) := by decide +kernel
theorem dX8_runAt_122 : decode cX8_runAt 122 = .ok (.ifCond .lt 60, 3) := by decide +kernel
theorem dX8_runAt_125 : decode cX8_runAt 125 = .ok (.lload 4, 2) := by decide +kernel
theorem dX8_runAt_127 : decode cX8_runAt 127 = .ok (.iload 9, 2) := by decide +kernel
theorem dX8_runAt_129 : decode cX8_runAt 129 = .ok (.ifCond .eq 20, 3) := by decide +kernel
theorem dX8_runAt_132 : decode cX8_runAt 132 = .ok (.aload_n 0, 1) := by decide +kernel
theorem dX8_runAt_133 : decode cX8_runAt 133 = .ok (.getfield 35, 3) := by decide +kernel
theorem dX8_runAt_136 : decode cX8_runAt 136 = .ok (.iconst 4, 1) := by decide +kernel
theorem dX8_runAt_137 : decode cX8_runAt 137 = .ok (.iload 7, 2) := by decide +kernel
theorem dX8_runAt_139 : decode cX8_runAt 139 = .ok (.imul, 1) := by decide +kernel
theorem dX8_runAt_140 : decode cX8_runAt 140 = .ok (.iconst 4, 1) := by decide +kernel
theorem dX8_runAt_141 : decode cX8_runAt 141 = .ok (.iadd, 1) := by decide +kernel
theorem dX8_runAt_142 : decode cX8_runAt 142 = .ok (.iload 8, 2) := by decide +kernel
theorem dX8_runAt_144 : decode cX8_runAt 144 = .ok (.iadd, 1) := by decide +kernel
theorem dX8_runAt_145 : decode cX8_runAt 145 = .ok (.laload, 1) := by decide +kernel
theorem dX8_runAt_146 : decode cX8_runAt 146 = .ok (.goto 4, 3) := by decide +kernel
theorem dX8_runAt_149 : decode cX8_runAt 149 = .ok (.lconst 0, 1) := by decide +kernel
theorem dX8_runAt_150 : decode cX8_runAt 150 = .ok (.lsub, 1) := by decide +kernel
theorem dX8_runAt_151 : decode cX8_runAt 151 = .ok (.lstore 4, 2) := by decide +kernel
theorem dX8_runAt_153 : decode cX8_runAt 153 = .ok (.iinc 8 1, 3) := by decide +kernel
theorem dX8_runAt_156 : decode cX8_runAt 156 = .ok (.aload_n 0, 1) := by decide +kernel
theorem dX8_runAt_157 : decode cX8_runAt 157 = .ok (.iload_n 1, 1) := by decide +kernel
theorem dX8_runAt_158 : decode cX8_runAt 158 = .ok (.iload 7, 2) := by decide +kernel
theorem dX8_runAt_160 : decode cX8_runAt 160 = .ok (.iload 6, 2) := by decide +kernel
theorem dX8_runAt_162 : decode cX8_runAt 162 = .ok (.iload 8, 2) := by decide +kernel
theorem dX8_runAt_164 : decode cX8_runAt 164 = .ok (.invokevirtual 83, 3) := by decide +kernel
theorem dX8_runAt_167 : decode cX8_runAt 167 = .ok (.lconst 0, 1) := by decide +kernel
theorem dX8_runAt_168 : decode cX8_runAt 168 = .ok (.lcmp, 1) := by decide +kernel
theorem dX8_runAt_169 : decode cX8_runAt 169 = .ok (.ifCond .le 7, 3) := by decide +kernel
theorem dX8_runAt_172 : decode cX8_runAt 172 = .ok (.iconst 1, 1) := by decide +kernel
theorem dX8_runAt_173 : decode cX8_runAt 173 = .ok (.goto 4, 3) := by decide +kernel
theorem dX8_runAt_176 : decode cX8_runAt 176 = .ok (.iconst 0, 1) := by decide +kernel
theorem dX8_runAt_177 : decode cX8_runAt 177 = .ok (.istore 9, 2) := by decide +kernel
theorem dX8_runAt_179 : decode cX8_runAt 179 = .ok (.goto (-79), 3) := by decide +kernel
theorem dX8_runAt_182 : decode cX8_runAt 182 = .ok (.iload 8, 2) := by decide +kernel
theorem dX8_runAt_184 : decode cX8_runAt 184 = .ok (.istore 6, 2) := by decide +kernel
theorem dX8_runAt_186 : decode cX8_runAt 186 = .ok (.iinc 7 1, 3) := by decide +kernel
theorem dX8_runAt_189 : decode cX8_runAt 189 = .ok (.goto (-120), 3) := by decide +kernel
theorem dX8_runAt_192 : decode cX8_runAt 192 = .ok (.iload 6, 2) := by decide +kernel
theorem dX8_runAt_194 : decode cX8_runAt 194 = .ok (.ireturn, 1) := by decide +kernel
theorem dX8_likeliestAt_0 : decode cX8_likeliestAt 0 = .ok (.iconst 0, 1) := by decide +kernel
theorem dX8_likeliestAt_1 : decode cX8_likeliestAt 1 = .ok (.istore_n 2, 1) := by decide +kernel
theorem dX8_likeliestAt_2 : decode cX8_likeliestAt 2 = .ok (.iconst 1, 1) := by decide +kernel
theorem dX8_likeliestAt_3 : decode cX8_likeliestAt 3 = .ok (.istore_n 3, 1) := by decide +kernel
theorem dX8_likeliestAt_4 : decode cX8_likeliestAt 4 = .ok (.iload_n 3, 1) := by decide +kernel
theorem dX8_likeliestAt_5 : decode cX8_likeliestAt 5 = .ok (.aload_n 0, 1) := by decide +kernel
theorem dX8_likeliestAt_6 : decode cX8_likeliestAt 6 = .ok (.getfield 7, 3) := by decide +kernel
theorem dX8_likeliestAt_9 : decode cX8_likeliestAt 9 = .ok (.iconst 0, 1) := by decide +kernel
theorem dX8_likeliestAt_10 : decode cX8_likeliestAt 10 = .ok (.iaload, 1) := by decide +kernel
theorem dX8_likeliestAt_11 : decode cX8_likeliestAt 11 = .ok (.if_icmp .ge 31, 3) := by decide +kernel
theorem dX8_likeliestAt_14 : decode cX8_likeliestAt 14 = .ok (.aload_n 0, 1) := by decide +kernel
theorem dX8_likeliestAt_15 : decode cX8_likeliestAt 15 = .ok (.iload_n 1, 1) := by decide +kernel
theorem dX8_likeliestAt_16 : decode cX8_likeliestAt 16 = .ok (.iload_n 3, 1) := by decide +kernel
theorem dX8_likeliestAt_17 : decode cX8_likeliestAt 17 = .ok (.invokevirtual 87, 3) := by decide +kernel
theorem dX8_likeliestAt_20 : decode cX8_likeliestAt 20 = .ok (.aload_n 0, 1) := by decide +kernel
theorem dX8_likeliestAt_21 : decode cX8_likeliestAt 21 = .ok (.iload_n 1, 1) := by decide +kernel
theorem dX8_likeliestAt_22 : decode cX8_likeliestAt 22 = .ok (.iload_n 2, 1) := by decide +kernel
theorem dX8_likeliestAt_23 : decode cX8_likeliestAt 23 = .ok (.invokevirtual 87, 3) := by decide +kernel
theorem dX8_likeliestAt_26 : decode cX8_likeliestAt 26 = .ok (.lcmp, 1) := by decide +kernel
theorem dX8_likeliestAt_27 : decode cX8_likeliestAt 27 = .ok (.ifCond .le 7, 3) := by decide +kernel
theorem dX8_likeliestAt_30 : decode cX8_likeliestAt 30 = .ok (.iload_n 3, 1) := by decide +kernel
theorem dX8_likeliestAt_31 : decode cX8_likeliestAt 31 = .ok (.goto 4, 3) := by decide +kernel
theorem dX8_likeliestAt_34 : decode cX8_likeliestAt 34 = .ok (.iload_n 2, 1) := by decide +kernel
theorem dX8_likeliestAt_35 : decode cX8_likeliestAt 35 = .ok (.istore_n 2, 1) := by decide +kernel
theorem dX8_likeliestAt_36 : decode cX8_likeliestAt 36 = .ok (.iinc 3 1, 3) := by decide +kernel
theorem dX8_likeliestAt_39 : decode cX8_likeliestAt 39 = .ok (.goto (-35), 3) := by decide +kernel
theorem dX8_likeliestAt_42 : decode cX8_likeliestAt 42 = .ok (.iload_n 2, 1) := by decide +kernel
theorem dX8_likeliestAt_43 : decode cX8_likeliestAt 43 = .ok (.ireturn, 1) := by decide +kernel
theorem dX8_placeOf_0 : decode cX8_placeOf 0 = .ok (.iload_n 1, 1) := by decide +kernel
theorem dX8_placeOf_1 : decode cX8_placeOf 1 = .ok (.iconst 0, 1) := by decide +kernel
theorem dX8_placeOf_2 : decode cX8_placeOf 2 = .ok (.iconst 2, 1) := by decide +kernel
theorem dX8_placeOf_3 : decode cX8_placeOf 3 = .ok (.invokestatic 58, 3) := by decide +kernel
theorem dX8_placeOf_6 : decode cX8_placeOf 6 = .ok (.ifCond .ne 6, 3) := by decide +kernel
theorem dX8_placeOf_9 : decode cX8_placeOf 9 = .ok (.bipush (-2), 2) := by decide +kernel
theorem dX8_placeOf_11 : decode cX8_placeOf 11 = .ok (.ireturn, 1) := by decide +kernel
theorem dX8_placeOf_12 : decode cX8_placeOf 12 = .ok (.iload_n 1, 1) := by decide +kernel
theorem dX8_placeOf_13 : decode cX8_placeOf 13 = .ok (.ifCond .ne 15, 3) := by decide +kernel
theorem dX8_placeOf_16 : decode cX8_placeOf 16 = .ok (.iload_n 3, 1) := by decide +kernel
theorem dX8_placeOf_17 : decode cX8_placeOf 17 = .ok (.ifCond .ne 7, 3) := by decide +kernel
theorem dX8_placeOf_20 : decode cX8_placeOf 20 = .ok (.iconst 1, 1) := by decide +kernel
theorem dX8_placeOf_21 : decode cX8_placeOf 21 = .ok (.goto 26, 3) := by decide +kernel
theorem dX8_placeOf_24 : decode cX8_placeOf 24 = .ok (.iconst 0, 1) := by decide +kernel
theorem dX8_placeOf_25 : decode cX8_placeOf 25 = .ok (.goto 22, 3) := by decide +kernel
theorem dX8_placeOf_28 : decode cX8_placeOf 28 = .ok (.iload_n 1, 1) := by decide +kernel
theorem dX8_placeOf_29 : decode cX8_placeOf 29 = .ok (.iconst 1, 1) := by decide +kernel
theorem dX8_placeOf_30 : decode cX8_placeOf 30 = .ok (.if_icmp .ne 11, 3) := by decide +kernel
theorem dX8_placeOf_33 : decode cX8_placeOf 33 = .ok (.aload_n 0, 1) := by decide +kernel
theorem dX8_placeOf_34 : decode cX8_placeOf 34 = .ok (.iload_n 3, 1) := by decide +kernel
theorem dX8_placeOf_35 : decode cX8_placeOf 35 = .ok (.invokevirtual 97, 3) := by decide +kernel
theorem dX8_placeOf_38 : decode cX8_placeOf 38 = .ok (.goto 9, 3) := by decide +kernel
theorem dX8_placeOf_41 : decode cX8_placeOf 41 = .ok (.iload_n 3, 1) := by decide +kernel
theorem dX8_placeOf_42 : decode cX8_placeOf 42 = .ok (.iconst 0, 1) := by decide +kernel
theorem dX8_placeOf_43 : decode cX8_placeOf 43 = .ok (.iconst 2, 1) := by decide +kernel
theorem dX8_placeOf_44 : decode cX8_placeOf 44 = .ok (.invokestatic 58, 3) := by decide +kernel
theorem dX8_placeOf_47 : decode cX8_placeOf 47 = .ok (.istore 4, 2) := by decide +kernel
theorem dX8_placeOf_49 : decode cX8_placeOf 49 = .ok (.aload_n 0, 1) := by decide +kernel
theorem dX8_placeOf_50 : decode cX8_placeOf 50 = .ok (.iload_n 2, 1) := by decide +kernel
theorem dX8_placeOf_51 : decode cX8_placeOf 51 = .ok (.invokevirtual 97, 3) := by decide +kernel
theorem dX8_placeOf_54 : decode cX8_placeOf 54 = .ok (.ifCond .eq 8, 3) := by decide +kernel
theorem dX8_placeOf_57 : decode cX8_placeOf 57 = .ok (.iload 4, 2) := by decide +kernel
theorem dX8_placeOf_59 : decode cX8_placeOf 59 = .ok (.ifCond .ne 5, 3) := by decide +kernel
theorem dX8_placeOf_62 : decode cX8_placeOf 62 = .ok (.iconst (-1), 1) := by decide +kernel
theorem dX8_placeOf_63 : decode cX8_placeOf 63 = .ok (.ireturn, 1) := by decide +kernel
theorem dX8_placeOf_64 : decode cX8_placeOf 64 = .ok (.iload_n 1, 1) := by decide +kernel
theorem dX8_placeOf_65 : decode cX8_placeOf 65 = .ok (.ifCond .ne 9, 3) := by decide +kernel
theorem dX8_placeOf_68 : decode cX8_placeOf 68 = .ok (.iconst 3, 1) := by decide +kernel
theorem dX8_placeOf_69 : decode cX8_placeOf 69 = .ok (.iload_n 2, 1) := by decide +kernel
theorem dX8_placeOf_70 : decode cX8_placeOf 70 = .ok (.iadd, 1) := by decide +kernel
theorem dX8_placeOf_71 : decode cX8_placeOf 71 = .ok (.goto 27, 3) := by decide +kernel
theorem dX8_placeOf_74 : decode cX8_placeOf 74 = .ok (.iload_n 1, 1) := by decide +kernel
theorem dX8_placeOf_75 : decode cX8_placeOf 75 = .ok (.iconst 1, 1) := by decide +kernel
theorem dX8_placeOf_76 : decode cX8_placeOf 76 = .ok (.if_icmp .ne 14, 3) := by decide +kernel
theorem dX8_placeOf_79 : decode cX8_placeOf 79 = .ok (.bipush 7, 2) := by decide +kernel
theorem dX8_placeOf_81 : decode cX8_placeOf 81 = .ok (.iconst 4, 1) := by decide +kernel
theorem dX8_placeOf_82 : decode cX8_placeOf 82 = .ok (.iload_n 2, 1) := by decide +kernel
theorem dX8_placeOf_83 : decode cX8_placeOf 83 = .ok (.imul, 1) := by decide +kernel
theorem dX8_placeOf_84 : decode cX8_placeOf 84 = .ok (.iadd, 1) := by decide +kernel
theorem dX8_placeOf_85 : decode cX8_placeOf 85 = .ok (.iload_n 3, 1) := by decide +kernel
theorem dX8_placeOf_86 : decode cX8_placeOf 86 = .ok (.iadd, 1) := by decide +kernel
theorem dX8_placeOf_87 : decode cX8_placeOf 87 = .ok (.goto 11, 3) := by decide +kernel
theorem dX8_placeOf_90 : decode cX8_placeOf 90 = .ok (.bipush 23, 2) := by decide +kernel
theorem dX8_placeOf_92 : decode cX8_placeOf 92 = .ok (.iconst 3, 1) := by decide +kernel
theorem dX8_placeOf_93 : decode cX8_placeOf 93 = .ok (.iload_n 2, 1) := by decide +kernel
theorem dX8_placeOf_94 : decode cX8_placeOf 94 = .ok (.imul, 1) := by decide +kernel
theorem dX8_placeOf_95 : decode cX8_placeOf 95 = .ok (.iadd, 1) := by decide +kernel
theorem dX8_placeOf_96 : decode cX8_placeOf 96 = .ok (.iload_n 3, 1) := by decide +kernel
theorem dX8_placeOf_97 : decode cX8_placeOf 97 = .ok (.iadd, 1) := by decide +kernel
theorem dX8_placeOf_98 : decode cX8_placeOf 98 = .ok (.ireturn, 1) := by decide +kernel
theorem dX8_setWeight_0 : decode cX8_setWeight 0 = .ok (.aload_n 0, 1) := by decide +kernel
theorem dX8_setWeight_1 : decode cX8_setWeight 1 = .ok (.iconst 0, 1) := by decide +kernel
theorem dX8_setWeight_2 : decode cX8_setWeight 2 = .ok (.putfield 50, 3) := by decide +kernel
theorem dX8_setWeight_5 : decode cX8_setWeight 5 = .ok (.aload_n 0, 1) := by decide +kernel
theorem dX8_setWeight_6 : decode cX8_setWeight 6 = .ok (.iload_n 1, 1) := by decide +kernel
theorem dX8_setWeight_7 : decode cX8_setWeight 7 = .ok (.iload_n 2, 1) := by decide +kernel
theorem dX8_setWeight_8 : decode cX8_setWeight 8 = .ok (.iload_n 3, 1) := by decide +kernel
theorem dX8_setWeight_9 : decode cX8_setWeight 9 = .ok (.invokevirtual 101, 3) := by decide +kernel
theorem dX8_setWeight_12 : decode cX8_setWeight 12 = .ok (.istore 5, 2) := by decide +kernel
theorem dX8_setWeight_14 : decode cX8_setWeight 14 = .ok (.iload 5, 2) := by decide +kernel
theorem dX8_setWeight_16 : decode cX8_setWeight 16 = .ok (.ifCond .ge 6, 3) := by decide +kernel
theorem dX8_setWeight_19 : decode cX8_setWeight 19 = .ok (.iload 5, 2) := by decide +kernel
theorem dX8_setWeight_21 : decode cX8_setWeight 21 = .ok (.ireturn, 1) := by decide +kernel
theorem dX8_setWeight_22 : decode cX8_setWeight 22 = .ok (.iload 4, 2) := by decide +kernel
theorem dX8_setWeight_24 : decode cX8_setWeight 24 = .ok (.iconst 0, 1) := by decide +kernel
theorem dX8_setWeight_25 : decode cX8_setWeight 25 = .ok (.bipush 6, 2) := by decide +kernel
theorem dX8_setWeight_27 : decode cX8_setWeight 27 = .ok (.invokestatic 58, 3) := by decide +kernel
theorem dX8_setWeight_30 : decode cX8_setWeight 30 = .ok (.ifCond .ne 6, 3) := by decide +kernel
theorem dX8_setWeight_33 : decode cX8_setWeight 33 = .ok (.bipush (-2), 2) := by decide +kernel
theorem dX8_setWeight_35 : decode cX8_setWeight 35 = .ok (.ireturn, 1) := by decide +kernel
theorem dX8_setWeight_36 : decode cX8_setWeight 36 = .ok (.aload_n 0, 1) := by decide +kernel
theorem dX8_setWeight_37 : decode cX8_setWeight 37 = .ok (.getfield 7, 3) := by decide +kernel
theorem dX8_setWeight_40 : decode cX8_setWeight 40 = .ok (.iload 5, 2) := by decide +kernel
theorem dX8_setWeight_42 : decode cX8_setWeight 42 = .ok (.iaload, 1) := by decide +kernel
theorem dX8_setWeight_43 : decode cX8_setWeight 43 = .ok (.istore 6, 2) := by decide +kernel
theorem dX8_setWeight_45 : decode cX8_setWeight 45 = .ok (.iload 6, 2) := by decide +kernel
theorem dX8_setWeight_47 : decode cX8_setWeight 47 = .ok (.iload 4, 2) := by decide +kernel
theorem dX8_setWeight_49 : decode cX8_setWeight 49 = .ok (.if_icmp .ne 6, 3) := by decide +kernel
theorem dX8_setWeight_52 : decode cX8_setWeight 52 = .ok (.bipush (-5), 2) := by decide +kernel
theorem dX8_setWeight_54 : decode cX8_setWeight 54 = .ok (.ireturn, 1) := by decide +kernel
theorem dX8_setWeight_55 : decode cX8_setWeight 55 = .ok (.aload_n 0, 1) := by decide +kernel
theorem dX8_setWeight_56 : decode cX8_setWeight 56 = .ok (.invokevirtual 105, 3) := by decide +kernel
theorem dX8_setWeight_59 : decode cX8_setWeight 59 = .ok (.aload_n 0, 1) := by decide +kernel
theorem dX8_setWeight_60 : decode cX8_setWeight 60 = .ok (.getfield 7, 3) := by decide +kernel
theorem dX8_setWeight_63 : decode cX8_setWeight 63 = .ok (.iload 5, 2) := by decide +kernel
theorem dX8_setWeight_65 : decode cX8_setWeight 65 = .ok (.iload 4, 2) := by decide +kernel
theorem dX8_setWeight_67 : decode cX8_setWeight 67 = .ok (.iastore, 1) := by decide +kernel
theorem dX8_setWeight_68 : decode cX8_setWeight 68 = .ok (.iload 6, 2) := by decide +kernel
theorem dX8_setWeight_70 : decode cX8_setWeight 70 = .ok (.ireturn, 1) := by decide +kernel
theorem dX8_addState_0 : decode cX8_addState 0 = .ok (.aload_n 0, 1) := by decide +kernel
theorem dX8_addState_1 : decode cX8_addState 1 = .ok (.iconst 0, 1) := by decide +kernel
theorem dX8_addState_2 : decode cX8_addState 2 = .ok (.putfield 50, 3) := by decide +kernel
theorem dX8_addState_5 : decode cX8_addState 5 = .ok (.aload_n 0, 1) := by decide +kernel
theorem dX8_addState_6 : decode cX8_addState 6 = .ok (.getfield 7, 3) := by decide +kernel
theorem dX8_addState_9 : decode cX8_addState 9 = .ok (.iconst 0, 1) := by decide +kernel
theorem dX8_addState_10 : decode cX8_addState 10 = .ok (.iaload, 1) := by decide +kernel
theorem dX8_addState_11 : decode cX8_addState 11 = .ok (.iconst 4, 1) := by decide +kernel
theorem dX8_addState_12 : decode cX8_addState 12 = .ok (.if_icmp .ne 6, 3) := by decide +kernel
theorem dX8_addState_15 : decode cX8_addState 15 = .ok (.bipush (-3), 2) := by decide +kernel
theorem dX8_addState_17 : decode cX8_addState 17 = .ok (.ireturn, 1) := by decide +kernel
theorem dX8_addState_18 : decode cX8_addState 18 = .ok (.aload_n 0, 1) := by decide +kernel
theorem dX8_addState_19 : decode cX8_addState 19 = .ok (.invokevirtual 105, 3) := by decide +kernel
theorem dX8_addState_22 : decode cX8_addState 22 = .ok (.aload_n 0, 1) := by decide +kernel
theorem dX8_addState_23 : decode cX8_addState 23 = .ok (.getfield 7, 3) := by decide +kernel
theorem dX8_addState_26 : decode cX8_addState 26 = .ok (.iconst 0, 1) := by decide +kernel
theorem dX8_addState_27 : decode cX8_addState 27 = .ok (.dup2, 1) := by decide +kernel
theorem dX8_addState_28 : decode cX8_addState 28 = .ok (.iaload, 1) := by decide +kernel
theorem dX8_addState_29 : decode cX8_addState 29 = .ok (.iconst 1, 1) := by decide +kernel
theorem dX8_addState_30 : decode cX8_addState 30 = .ok (.iadd, 1) := by decide +kernel
theorem dX8_addState_31 : decode cX8_addState 31 = .ok (.iastore, 1) := by decide +kernel
theorem dX8_addState_32 : decode cX8_addState 32 = .ok (.aload_n 0, 1) := by decide +kernel
theorem dX8_addState_33 : decode cX8_addState 33 = .ok (.aload_n 0, 1) := by decide +kernel
theorem dX8_addState_34 : decode cX8_addState 34 = .ok (.getfield 7, 3) := by decide +kernel
theorem dX8_addState_37 : decode cX8_addState 37 = .ok (.iconst 0, 1) := by decide +kernel
theorem dX8_addState_38 : decode cX8_addState 38 = .ok (.iaload, 1) := by decide +kernel
theorem dX8_addState_39 : decode cX8_addState 39 = .ok (.iconst 1, 1) := by decide +kernel
theorem dX8_addState_40 : decode cX8_addState 40 = .ok (.isub, 1) := by decide +kernel
theorem dX8_addState_41 : decode cX8_addState 41 = .ok (.invokevirtual 54, 3) := by decide +kernel
theorem dX8_addState_44 : decode cX8_addState 44 = .ok (.aload_n 0, 1) := by decide +kernel
theorem dX8_addState_45 : decode cX8_addState 45 = .ok (.getfield 7, 3) := by decide +kernel
theorem dX8_addState_48 : decode cX8_addState 48 = .ok (.iconst 0, 1) := by decide +kernel
theorem dX8_addState_49 : decode cX8_addState 49 = .ok (.iaload, 1) := by decide +kernel
theorem dX8_addState_50 : decode cX8_addState 50 = .ok (.iconst 1, 1) := by decide +kernel
theorem dX8_addState_51 : decode cX8_addState 51 = .ok (.isub, 1) := by decide +kernel
theorem dX8_addState_52 : decode cX8_addState 52 = .ok (.ireturn, 1) := by decide +kernel
theorem dX8_split_0 : decode cX8_split 0 = .ok (.aload_n 0, 1) := by decide +kernel
theorem dX8_split_1 : decode cX8_split 1 = .ok (.iconst 0, 1) := by decide +kernel
theorem dX8_split_2 : decode cX8_split 2 = .ok (.putfield 50, 3) := by decide +kernel
theorem dX8_split_5 : decode cX8_split 5 = .ok (.aload_n 0, 1) := by decide +kernel
theorem dX8_split_6 : decode cX8_split 6 = .ok (.iload_n 1, 1) := by decide +kernel
theorem dX8_split_7 : decode cX8_split 7 = .ok (.invokevirtual 97, 3) := by decide +kernel
theorem dX8_split_10 : decode cX8_split 10 = .ok (.ifCond .ne 5, 3) := by decide +kernel
theorem dX8_split_13 : decode cX8_split 13 = .ok (.iconst (-1), 1) := by decide +kernel
theorem dX8_split_14 : decode cX8_split 14 = .ok (.ireturn, 1) := by decide +kernel
theorem dX8_split_15 : decode cX8_split 15 = .ok (.aload_n 0, 1) := by decide +kernel
theorem dX8_split_16 : decode cX8_split 16 = .ok (.getfield 7, 3) := by decide +kernel
theorem dX8_split_19 : decode cX8_split 19 = .ok (.iconst 0, 1) := by decide +kernel
theorem dX8_split_20 : decode cX8_split 20 = .ok (.iaload, 1) := by decide +kernel
theorem dX8_split_21 : decode cX8_split 21 = .ok (.iconst 4, 1) := by decide +kernel
theorem dX8_split_22 : decode cX8_split 22 = .ok (.if_icmp .ne 6, 3) := by decide +kernel
theorem dX8_split_25 : decode cX8_split 25 = .ok (.bipush (-3), 2) := by decide +kernel
theorem dX8_split_27 : decode cX8_split 27 = .ok (.ireturn, 1) := by decide +kernel
theorem dX8_split_28 : decode cX8_split 28 = .ok (.aload_n 0, 1) := by decide +kernel
theorem dX8_split_29 : decode cX8_split 29 = .ok (.invokevirtual 105, 3) := by decide +kernel
theorem dX8_split_32 : decode cX8_split 32 = .ok (.aload_n 0, 1) := by decide +kernel
theorem dX8_split_33 : decode cX8_split 33 = .ok (.getfield 7, 3) := by decide +kernel
theorem dX8_split_36 : decode cX8_split 36 = .ok (.iconst 0, 1) := by decide +kernel
theorem dX8_split_37 : decode cX8_split 37 = .ok (.iaload, 1) := by decide +kernel
theorem dX8_split_38 : decode cX8_split 38 = .ok (.istore_n 2, 1) := by decide +kernel
theorem dX8_split_39 : decode cX8_split 39 = .ok (.aload_n 0, 1) := by decide +kernel
theorem dX8_split_40 : decode cX8_split 40 = .ok (.iload_n 1, 1) := by decide +kernel
theorem dX8_split_41 : decode cX8_split 41 = .ok (.iload_n 1, 1) := by decide +kernel
theorem dX8_split_42 : decode cX8_split 42 = .ok (.invokevirtual 76, 3) := by decide +kernel
theorem dX8_split_45 : decode cX8_split 45 = .ok (.istore_n 3, 1) := by decide +kernel
theorem dX8_split_46 : decode cX8_split 46 = .ok (.aload_n 0, 1) := by decide +kernel
theorem dX8_split_47 : decode cX8_split 47 = .ok (.getfield 7, 3) := by decide +kernel
theorem dX8_split_50 : decode cX8_split 50 = .ok (.iconst 0, 1) := by decide +kernel
theorem dX8_split_51 : decode cX8_split 51 = .ok (.dup2, 1) := by decide +kernel
theorem dX8_split_52 : decode cX8_split 52 = .ok (.iaload, 1) := by decide +kernel
theorem dX8_split_53 : decode cX8_split 53 = .ok (.iconst 1, 1) := by decide +kernel
theorem dX8_split_54 : decode cX8_split 54 = .ok (.iadd, 1) := by decide +kernel
theorem dX8_split_55 : decode cX8_split 55 = .ok (.iastore, 1) := by decide +kernel
theorem dX8_split_56 : decode cX8_split 56 = .ok (.aload_n 0, 1) := by decide +kernel
theorem dX8_split_57 : decode cX8_split 57 = .ok (.getfield 7, 3) := by decide +kernel
theorem dX8_split_60 : decode cX8_split 60 = .ok (.iconst 3, 1) := by decide +kernel
theorem dX8_split_61 : decode cX8_split 61 = .ok (.iload_n 2, 1) := by decide +kernel
theorem dX8_split_62 : decode cX8_split 62 = .ok (.iadd, 1) := by decide +kernel
theorem dX8_split_63 : decode cX8_split 63 = .ok (.aload_n 0, 1) := by decide +kernel
theorem dX8_split_64 : decode cX8_split 64 = .ok (.getfield 7, 3) := by decide +kernel
theorem dX8_split_67 : decode cX8_split 67 = .ok (.iconst 3, 1) := by decide +kernel
theorem dX8_split_68 : decode cX8_split 68 = .ok (.iload_n 1, 1) := by decide +kernel
theorem dX8_split_69 : decode cX8_split 69 = .ok (.iadd, 1) := by decide +kernel
theorem dX8_split_70 : decode cX8_split 70 = .ok (.iaload, 1) := by decide +kernel
theorem dX8_split_71 : decode cX8_split 71 = .ok (.iastore, 1) := by decide +kernel
theorem dX8_split_72 : decode cX8_split 72 = .ok (.iconst 0, 1) := by decide +kernel
theorem dX8_split_73 : decode cX8_split 73 = .ok (.istore 4, 2) := by decide +kernel
theorem dX8_split_75 : decode cX8_split 75 = .ok (.iload 4, 2) := by decide +kernel
theorem dX8_split_77 : decode cX8_split 77 = .ok (.iconst 3, 1) := by decide +kernel
theorem dX8_split_78 : decode cX8_split 78 = .ok (.if_icmp .ge 30, 3) := by decide +kernel
theorem dX8_split_81 : decode cX8_split 81 = .ok (.aload_n 0, 1) := by decide +kernel
theorem dX8_split_82 : decode cX8_split 82 = .ok (.getfield 7, 3) := by decide +kernel
theorem dX8_split_85 : decode cX8_split 85 = .ok (.bipush 23, 2) := by decide +kernel
theorem dX8_split_87 : decode cX8_split 87 = .ok (.iconst 3, 1) := by decide +kernel
theorem dX8_split_88 : decode cX8_split 88 = .ok (.iload_n 2, 1) := by decide +kernel
theorem dX8_split_89 : decode cX8_split 89 = .ok (.imul, 1) := by decide +kernel
theorem dX8_split_90 : decode cX8_split 90 = .ok (.iadd, 1) := by decide +kernel
theorem dX8_split_91 : decode cX8_split 91 = .ok (.iload 4, 2) := by decide +kernel
theorem dX8_split_93 : decode cX8_split 93 = .ok (.iadd, 1) := by decide +kernel
theorem dX8_split_94 : decode cX8_split 94 = .ok (.aload_n 0, 1) := by decide +kernel
theorem dX8_split_95 : decode cX8_split 95 = .ok (.iload_n 1, 1) := by decide +kernel
theorem dX8_split_96 : decode cX8_split 96 = .ok (.iload 4, 2) := by decide +kernel
theorem dX8_split_98 : decode cX8_split 98 = .ok (.invokevirtual 73, 3) := by decide +kernel
theorem dX8_split_101 : decode cX8_split 101 = .ok (.iastore, 1) := by decide +kernel
theorem dX8_split_102 : decode cX8_split 102 = .ok (.iinc 4 1, 3) := by decide +kernel
theorem dX8_split_105 : decode cX8_split 105 = .ok (.goto (-30), 3) := by decide +kernel
theorem dX8_split_108 : decode cX8_split 108 = .ok (.iconst 0, 1) := by decide +kernel
theorem dX8_split_109 : decode cX8_split 109 = .ok (.istore 4, 2) := by decide +kernel
theorem dX8_split_111 : decode cX8_split 111 = .ok (.iload 4, 2) := by decide +kernel
theorem dX8_split_113 : decode cX8_split 113 = .ok (.iload_n 2, 1) := by decide +kernel
theorem dX8_split_114 : decode cX8_split 114 = .ok (.if_icmp .ge 51, 3) := by decide +kernel
theorem dX8_split_117 : decode cX8_split 117 = .ok (.aload_n 0, 1) := by decide +kernel
theorem dX8_split_118 : decode cX8_split 118 = .ok (.getfield 7, 3) := by decide +kernel
theorem dX8_split_121 : decode cX8_split 121 = .ok (.bipush 7, 2) := by decide +kernel
theorem dX8_split_123 : decode cX8_split 123 = .ok (.iconst 4, 1) := by decide +kernel
theorem dX8_split_124 : decode cX8_split 124 = .ok (.iload_n 2, 1) := by decide +kernel
theorem dX8_split_125 : decode cX8_split 125 = .ok (.imul, 1) := by decide +kernel
theorem dX8_split_126 : decode cX8_split 126 = .ok (.iadd, 1) := by decide +kernel
theorem dX8_split_127 : decode cX8_split 127 = .ok (.iload 4, 2) := by decide +kernel
theorem dX8_split_129 : decode cX8_split 129 = .ok (.iadd, 1) := by decide +kernel
theorem dX8_split_130 : decode cX8_split 130 = .ok (.aload_n 0, 1) := by decide +kernel
theorem dX8_split_131 : decode cX8_split 131 = .ok (.iload_n 1, 1) := by decide +kernel
theorem dX8_split_132 : decode cX8_split 132 = .ok (.iload 4, 2) := by decide +kernel
theorem dX8_split_134 : decode cX8_split 134 = .ok (.invokevirtual 76, 3) := by decide +kernel
theorem dX8_split_137 : decode cX8_split 137 = .ok (.iastore, 1) := by decide +kernel
theorem dX8_split_138 : decode cX8_split 138 = .ok (.aload_n 0, 1) := by decide +kernel
theorem dX8_split_139 : decode cX8_split 139 = .ok (.getfield 7, 3) := by decide +kernel
theorem dX8_split_142 : decode cX8_split 142 = .ok (.bipush 7, 2) := by decide +kernel
theorem dX8_split_144 : decode cX8_split 144 = .ok (.iconst 4, 1) := by decide +kernel
theorem dX8_split_145 : decode cX8_split 145 = .ok (.iload 4, 2) := by decide +kernel
theorem dX8_split_147 : decode cX8_split 147 = .ok (.imul, 1) := by decide +kernel
theorem dX8_split_148 : decode cX8_split 148 = .ok (.iadd, 1) := by decide +kernel
theorem dX8_split_149 : decode cX8_split 149 = .ok (.iload_n 2, 1) := by decide +kernel
theorem dX8_split_150 : decode cX8_split 150 = .ok (.iadd, 1) := by decide +kernel
theorem dX8_split_151 : decode cX8_split 151 = .ok (.aload_n 0, 1) := by decide +kernel
theorem dX8_split_152 : decode cX8_split 152 = .ok (.iload 4, 2) := by decide +kernel
theorem dX8_split_154 : decode cX8_split 154 = .ok (.iload_n 1, 1) := by decide +kernel
theorem dX8_split_155 : decode cX8_split 155 = .ok (.invokevirtual 76, 3) := by decide +kernel
theorem dX8_split_158 : decode cX8_split 158 = .ok (.iastore, 1) := by decide +kernel
theorem dX8_split_159 : decode cX8_split 159 = .ok (.iinc 4 1, 3) := by decide +kernel
theorem dX8_split_162 : decode cX8_split 162 = .ok (.goto (-51), 3) := by decide +kernel
theorem dX8_split_165 : decode cX8_split 165 = .ok (.aload_n 0, 1) := by decide +kernel
theorem dX8_split_166 : decode cX8_split 166 = .ok (.getfield 7, 3) := by decide +kernel
theorem dX8_split_169 : decode cX8_split 169 = .ok (.bipush 7, 2) := by decide +kernel
theorem dX8_split_171 : decode cX8_split 171 = .ok (.iconst 4, 1) := by decide +kernel
theorem dX8_split_172 : decode cX8_split 172 = .ok (.iload_n 2, 1) := by decide +kernel
theorem dX8_split_173 : decode cX8_split 173 = .ok (.imul, 1) := by decide +kernel
theorem dX8_split_174 : decode cX8_split 174 = .ok (.iadd, 1) := by decide +kernel
theorem dX8_split_175 : decode cX8_split 175 = .ok (.iload_n 2, 1) := by decide +kernel
theorem dX8_split_176 : decode cX8_split 176 = .ok (.iadd, 1) := by decide +kernel
theorem dX8_split_177 : decode cX8_split 177 = .ok (.iload_n 3, 1) := by decide +kernel
theorem dX8_split_178 : decode cX8_split 178 = .ok (.iastore, 1) := by decide +kernel
theorem dX8_split_179 : decode cX8_split 179 = .ok (.iload_n 2, 1) := by decide +kernel
theorem dX8_split_180 : decode cX8_split 180 = .ok (.ireturn, 1) := by decide +kernel
theorem dX8_drops_0 : decode cX8_drops 0 = .ok (.iconst 0, 1) := by decide +kernel
theorem dX8_drops_1 : decode cX8_drops 1 = .ok (.istore_n 2, 1) := by decide +kernel
theorem dX8_drops_2 : decode cX8_drops 2 = .ok (.iload_n 2, 1) := by decide +kernel
theorem dX8_drops_3 : decode cX8_drops 3 = .ok (.aload_n 0, 1) := by decide +kernel
theorem dX8_drops_4 : decode cX8_drops 4 = .ok (.getfield 7, 3) := by decide +kernel
theorem dX8_drops_7 : decode cX8_drops 7 = .ok (.iconst 0, 1) := by decide +kernel
theorem dX8_drops_8 : decode cX8_drops 8 = .ok (.iaload, 1) := by decide +kernel
theorem dX8_drops_9 : decode cX8_drops 9 = .ok (.if_icmp .ge 50, 3) := by decide +kernel
theorem dX8_drops_12 : decode cX8_drops 12 = .ok (.iload_n 1, 1) := by decide +kernel
theorem dX8_drops_13 : decode cX8_drops 13 = .ok (.istore_n 3, 1) := by decide +kernel
theorem dX8_drops_14 : decode cX8_drops 14 = .ok (.iload_n 3, 1) := by decide +kernel
theorem dX8_drops_15 : decode cX8_drops 15 = .ok (.aload_n 0, 1) := by decide +kernel
theorem dX8_drops_16 : decode cX8_drops 16 = .ok (.getfield 7, 3) := by decide +kernel
theorem dX8_drops_19 : decode cX8_drops 19 = .ok (.iconst 0, 1) := by decide +kernel
theorem dX8_drops_20 : decode cX8_drops 20 = .ok (.iaload, 1) := by decide +kernel
theorem dX8_drops_21 : decode cX8_drops 21 = .ok (.iconst 1, 1) := by decide +kernel
theorem dX8_drops_22 : decode cX8_drops 22 = .ok (.isub, 1) := by decide +kernel
theorem dX8_drops_23 : decode cX8_drops 23 = .ok (.if_icmp .ge 30, 3) := by decide +kernel
theorem dX8_drops_26 : decode cX8_drops 26 = .ok (.aload_n 0, 1) := by decide +kernel
theorem dX8_drops_27 : decode cX8_drops 27 = .ok (.getfield 7, 3) := by decide +kernel
theorem dX8_drops_30 : decode cX8_drops 30 = .ok (.bipush 7, 2) := by decide +kernel
theorem dX8_drops_32 : decode cX8_drops 32 = .ok (.iconst 4, 1) := by decide +kernel
theorem dX8_drops_33 : decode cX8_drops 33 = .ok (.iload_n 2, 1) := by decide +kernel
theorem dX8_drops_34 : decode cX8_drops 34 = .ok (.imul, 1) := by decide +kernel
theorem dX8_drops_35 : decode cX8_drops 35 = .ok (.iadd, 1) := by decide +kernel
theorem dX8_drops_36 : decode cX8_drops 36 = .ok (.iload_n 3, 1) := by decide +kernel
theorem dX8_drops_37 : decode cX8_drops 37 = .ok (.iadd, 1) := by decide +kernel
theorem dX8_drops_38 : decode cX8_drops 38 = .ok (.aload_n 0, 1) := by decide +kernel
theorem dX8_drops_39 : decode cX8_drops 39 = .ok (.iload_n 2, 1) := by decide +kernel
theorem dX8_drops_40 : decode cX8_drops 40 = .ok (.iload_n 3, 1) := by decide +kernel
theorem dX8_drops_41 : decode cX8_drops 41 = .ok (.iconst 1, 1) := by decide +kernel
theorem dX8_drops_42 : decode cX8_drops 42 = .ok (.iadd, 1) := by decide +kernel
theorem dX8_drops_43 : decode cX8_drops 43 = .ok (.invokevirtual 76, 3) := by decide +kernel
theorem dX8_drops_46 : decode cX8_drops 46 = .ok (.iastore, 1) := by decide +kernel
theorem dX8_drops_47 : decode cX8_drops 47 = .ok (.iinc 3 1, 3) := by decide +kernel
theorem dX8_drops_50 : decode cX8_drops 50 = .ok (.goto (-36), 3) := by decide +kernel
theorem dX8_drops_53 : decode cX8_drops 53 = .ok (.iinc 2 1, 3) := by decide +kernel
theorem dX8_drops_56 : decode cX8_drops 56 = .ok (.goto (-54), 3) := by decide +kernel
theorem dX8_drops_59 : decode cX8_drops 59 = .ok (.iload_n 1, 1) := by decide +kernel
theorem dX8_drops_60 : decode cX8_drops 60 = .ok (.istore_n 2, 1) := by decide +kernel
theorem dX8_drops_61 : decode cX8_drops 61 = .ok (.iload_n 2, 1) := by decide +kernel
theorem dX8_drops_62 : decode cX8_drops 62 = .ok (.aload_n 0, 1) := by decide +kernel
theorem dX8_drops_63 : decode cX8_drops 63 = .ok (.getfield 7, 3) := by decide +kernel
theorem dX8_drops_66 : decode cX8_drops 66 = .ok (.iconst 0, 1) := by decide +kernel
theorem dX8_drops_67 : decode cX8_drops 67 = .ok (.iaload, 1) := by decide +kernel
theorem dX8_drops_68 : decode cX8_drops 68 = .ok (.iconst 1, 1) := by decide +kernel
theorem dX8_drops_69 : decode cX8_drops 69 = .ok (.isub, 1) := by decide +kernel
theorem dX8_drops_70 : decode cX8_drops 70 = .ok (.if_icmp .ge 102, 3) := by decide +kernel
theorem dX8_drops_73 : decode cX8_drops 73 = .ok (.aload_n 0, 1) := by decide +kernel
theorem dX8_drops_74 : decode cX8_drops 74 = .ok (.getfield 7, 3) := by decide +kernel
theorem dX8_drops_77 : decode cX8_drops 77 = .ok (.iconst 3, 1) := by decide +kernel
theorem dX8_drops_78 : decode cX8_drops 78 = .ok (.iload_n 2, 1) := by decide +kernel
theorem dX8_drops_79 : decode cX8_drops 79 = .ok (.iadd, 1) := by decide +kernel
theorem dX8_drops_80 : decode cX8_drops 80 = .ok (.aload_n 0, 1) := by decide +kernel
theorem dX8_drops_81 : decode cX8_drops 81 = .ok (.getfield 7, 3) := by decide +kernel
theorem dX8_drops_84 : decode cX8_drops 84 = .ok (.iconst 3, 1) := by decide +kernel
theorem dX8_drops_85 : decode cX8_drops 85 = .ok (.iload_n 2, 1) := by decide +kernel
theorem dX8_drops_86 : decode cX8_drops 86 = .ok (.iadd, 1) := by decide +kernel
theorem dX8_drops_87 : decode cX8_drops 87 = .ok (.iconst 1, 1) := by decide +kernel
theorem dX8_drops_88 : decode cX8_drops 88 = .ok (.iadd, 1) := by decide +kernel
theorem dX8_drops_89 : decode cX8_drops 89 = .ok (.iaload, 1) := by decide +kernel
theorem dX8_drops_90 : decode cX8_drops 90 = .ok (.iastore, 1) := by decide +kernel
theorem dX8_drops_91 : decode cX8_drops 91 = .ok (.iconst 0, 1) := by decide +kernel
theorem dX8_drops_92 : decode cX8_drops 92 = .ok (.istore_n 3, 1) := by decide +kernel
theorem dX8_drops_93 : decode cX8_drops 93 = .ok (.iload_n 3, 1) := by decide +kernel
theorem dX8_drops_94 : decode cX8_drops 94 = .ok (.aload_n 0, 1) := by decide +kernel
theorem dX8_drops_95 : decode cX8_drops 95 = .ok (.getfield 7, 3) := by decide +kernel
theorem dX8_drops_98 : decode cX8_drops 98 = .ok (.iconst 0, 1) := by decide +kernel
theorem dX8_drops_99 : decode cX8_drops 99 = .ok (.iaload, 1) := by decide +kernel
theorem dX8_drops_100 : decode cX8_drops 100 = .ok (.iconst 1, 1) := by decide +kernel
theorem dX8_drops_101 : decode cX8_drops 101 = .ok (.isub, 1) := by decide +kernel
theorem dX8_drops_102 : decode cX8_drops 102 = .ok (.if_icmp .ge 30, 3) := by decide +kernel
theorem dX8_drops_105 : decode cX8_drops 105 = .ok (.aload_n 0, 1) := by decide +kernel
theorem dX8_drops_106 : decode cX8_drops 106 = .ok (.getfield 7, 3) := by decide +kernel
theorem dX8_drops_109 : decode cX8_drops 109 = .ok (.bipush 7, 2) := by decide +kernel
theorem dX8_drops_111 : decode cX8_drops 111 = .ok (.iconst 4, 1) := by decide +kernel
theorem dX8_drops_112 : decode cX8_drops 112 = .ok (.iload_n 2, 1) := by decide +kernel
theorem dX8_drops_113 : decode cX8_drops 113 = .ok (.imul, 1) := by decide +kernel
theorem dX8_drops_114 : decode cX8_drops 114 = .ok (.iadd, 1) := by decide +kernel
theorem dX8_drops_115 : decode cX8_drops 115 = .ok (.iload_n 3, 1) := by decide +kernel
theorem dX8_drops_116 : decode cX8_drops 116 = .ok (.iadd, 1) := by decide +kernel
theorem dX8_drops_117 : decode cX8_drops 117 = .ok (.aload_n 0, 1) := by decide +kernel
theorem dX8_drops_118 : decode cX8_drops 118 = .ok (.iload_n 2, 1) := by decide +kernel
theorem dX8_drops_119 : decode cX8_drops 119 = .ok (.iconst 1, 1) := by decide +kernel
theorem dX8_drops_120 : decode cX8_drops 120 = .ok (.iadd, 1) := by decide +kernel
theorem dX8_drops_121 : decode cX8_drops 121 = .ok (.iload_n 3, 1) := by decide +kernel
theorem dX8_drops_122 : decode cX8_drops 122 = .ok (.invokevirtual 76, 3) := by decide +kernel
theorem dX8_drops_125 : decode cX8_drops 125 = .ok (.iastore, 1) := by decide +kernel
theorem dX8_drops_126 : decode cX8_drops 126 = .ok (.iinc 3 1, 3) := by decide +kernel
theorem dX8_drops_129 : decode cX8_drops 129 = .ok (.goto (-36), 3) := by decide +kernel
theorem dX8_drops_132 : decode cX8_drops 132 = .ok (.iconst 0, 1) := by decide +kernel
theorem dX8_drops_133 : decode cX8_drops 133 = .ok (.istore_n 3, 1) := by decide +kernel
theorem dX8_drops_134 : decode cX8_drops 134 = .ok (.iload_n 3, 1) := by decide +kernel
theorem dX8_drops_135 : decode cX8_drops 135 = .ok (.iconst 3, 1) := by decide +kernel
theorem dX8_drops_136 : decode cX8_drops 136 = .ok (.if_icmp .ge 30, 3) := by decide +kernel
theorem dX8_drops_139 : decode cX8_drops 139 = .ok (.aload_n 0, 1) := by decide +kernel
theorem dX8_drops_140 : decode cX8_drops 140 = .ok (.getfield 7, 3) := by decide +kernel
theorem dX8_drops_143 : decode cX8_drops 143 = .ok (.bipush 23, 2) := by decide +kernel
theorem dX8_drops_145 : decode cX8_drops 145 = .ok (.iconst 3, 1) := by decide +kernel
theorem dX8_drops_146 : decode cX8_drops 146 = .ok (.iload_n 2, 1) := by decide +kernel
theorem dX8_drops_147 : decode cX8_drops 147 = .ok (.imul, 1) := by decide +kernel
theorem dX8_drops_148 : decode cX8_drops 148 = .ok (.iadd, 1) := by decide +kernel
theorem dX8_drops_149 : decode cX8_drops 149 = .ok (.iload_n 3, 1) := by decide +kernel
theorem dX8_drops_150 : decode cX8_drops 150 = .ok (.iadd, 1) := by decide +kernel
theorem dX8_drops_151 : decode cX8_drops 151 = .ok (.aload_n 0, 1) := by decide +kernel
theorem dX8_drops_152 : decode cX8_drops 152 = .ok (.iload_n 2, 1) := by decide +kernel
theorem dX8_drops_153 : decode cX8_drops 153 = .ok (.iconst 1, 1) := by decide +kernel
theorem dX8_drops_154 : decode cX8_drops 154 = .ok (.iadd, 1) := by decide +kernel
theorem dX8_drops_155 : decode cX8_drops 155 = .ok (.iload_n 3, 1) := by decide +kernel
theorem dX8_drops_156 : decode cX8_drops 156 = .ok (.invokevirtual 73, 3) := by decide +kernel
theorem dX8_drops_159 : decode cX8_drops 159 = .ok (.iastore, 1) := by decide +kernel
theorem dX8_drops_160 : decode cX8_drops 160 = .ok (.iinc 3 1, 3) := by decide +kernel
theorem dX8_drops_163 : decode cX8_drops 163 = .ok (.goto (-29), 3) := by decide +kernel
theorem dX8_drops_166 : decode cX8_drops 166 = .ok (.iinc 2 1, 3) := by decide +kernel
theorem dX8_drops_169 : decode cX8_drops 169 = .ok (.goto (-108), 3) := by decide +kernel
theorem dX8_drops_172 : decode cX8_drops 172 = .ok (.aload_n 0, 1) := by decide +kernel
theorem dX8_drops_173 : decode cX8_drops 173 = .ok (.getfield 7, 3) := by decide +kernel
theorem dX8_drops_176 : decode cX8_drops 176 = .ok (.iconst 0, 1) := by decide +kernel
theorem dX8_drops_177 : decode cX8_drops 177 = .ok (.dup2, 1) := by decide +kernel
theorem dX8_drops_178 : decode cX8_drops 178 = .ok (.iaload, 1) := by decide +kernel
theorem dX8_drops_179 : decode cX8_drops 179 = .ok (.iconst 1, 1) := by decide +kernel
theorem dX8_drops_180 : decode cX8_drops 180 = .ok (.isub, 1) := by decide +kernel
theorem dX8_drops_181 : decode cX8_drops 181 = .ok (.iastore, 1) := by decide +kernel
theorem dX8_drops_182 : decode cX8_drops 182 = .ok (.aload_n 0, 1) := by decide +kernel
theorem dX8_drops_183 : decode cX8_drops 183 = .ok (.aload_n 0, 1) := by decide +kernel
theorem dX8_drops_184 : decode cX8_drops 184 = .ok (.getfield 7, 3) := by decide +kernel
theorem dX8_drops_187 : decode cX8_drops 187 = .ok (.iconst 0, 1) := by decide +kernel
theorem dX8_drops_188 : decode cX8_drops 188 = .ok (.iaload, 1) := by decide +kernel
theorem dX8_drops_189 : decode cX8_drops 189 = .ok (.invokevirtual 108, 3) := by decide +kernel
theorem dX8_drops_192 : decode cX8_drops 192 = .ok (.return_, 1) := by decide +kernel
theorem dX8_clears_0 : decode cX8_clears 0 = .ok (.aload_n 0, 1) := by decide +kernel
theorem dX8_clears_1 : decode cX8_clears 1 = .ok (.getfield 7, 3) := by decide +kernel
theorem dX8_clears_4 : decode cX8_clears 4 = .ok (.iconst 3, 1) := by decide +kernel
theorem dX8_clears_5 : decode cX8_clears 5 = .ok (.iload_n 1, 1) := by decide +kernel
theorem dX8_clears_6 : decode cX8_clears 6 = .ok (.iadd, 1) := by decide +kernel
theorem dX8_clears_7 : decode cX8_clears 7 = .ok (.iconst 0, 1) := by decide +kernel
theorem dX8_clears_8 : decode cX8_clears 8 = .ok (.iastore, 1) := by decide +kernel
theorem dX8_clears_9 : decode cX8_clears 9 = .ok (.iconst 0, 1) := by decide +kernel
theorem dX8_clears_10 : decode cX8_clears 10 = .ok (.istore_n 2, 1) := by decide +kernel
theorem dX8_clears_11 : decode cX8_clears 11 = .ok (.iload_n 2, 1) := by decide +kernel
theorem dX8_clears_12 : decode cX8_clears 12 = .ok (.iconst 4, 1) := by decide +kernel
theorem dX8_clears_13 : decode cX8_clears 13 = .ok (.if_icmp .ge 37, 3) := by decide +kernel
theorem dX8_clears_16 : decode cX8_clears 16 = .ok (.aload_n 0, 1) := by decide +kernel
theorem dX8_clears_17 : decode cX8_clears 17 = .ok (.getfield 7, 3) := by decide +kernel
theorem dX8_clears_20 : decode cX8_clears 20 = .ok (.bipush 7, 2) := by decide +kernel
theorem dX8_clears_22 : decode cX8_clears 22 = .ok (.iconst 4, 1) := by decide +kernel
theorem dX8_clears_23 : decode cX8_clears 23 = .ok (.iload_n 1, 1) := by decide +kernel
theorem dX8_clears_24 : decode cX8_clears 24 = .ok (.imul, 1) := by decide +kernel
theorem dX8_clears_25 : decode cX8_clears 25 = .ok (.iadd, 1) := by decide +kernel
theorem dX8_clears_26 : decode cX8_clears 26 = .ok (.iload_n 2, 1) := by decide +kernel
theorem dX8_clears_27 : decode cX8_clears 27 = .ok (.iadd, 1) := by decide +kernel
theorem dX8_clears_28 : decode cX8_clears 28 = .ok (.iconst 0, 1) := by decide +kernel
theorem dX8_clears_29 : decode cX8_clears 29 = .ok (.iastore, 1) := by decide +kernel
theorem dX8_clears_30 : decode cX8_clears 30 = .ok (.aload_n 0, 1) := by decide +kernel
theorem dX8_clears_31 : decode cX8_clears 31 = .ok (.getfield 7, 3) := by decide +kernel
theorem dX8_clears_34 : decode cX8_clears 34 = .ok (.bipush 7, 2) := by decide +kernel
theorem dX8_clears_36 : decode cX8_clears 36 = .ok (.iconst 4, 1) := by decide +kernel
theorem dX8_clears_37 : decode cX8_clears 37 = .ok (.iload_n 2, 1) := by decide +kernel
theorem dX8_clears_38 : decode cX8_clears 38 = .ok (.imul, 1) := by decide +kernel
theorem dX8_clears_39 : decode cX8_clears 39 = .ok (.iadd, 1) := by decide +kernel
theorem dX8_clears_40 : decode cX8_clears 40 = .ok (.iload_n 1, 1) := by decide +kernel
theorem dX8_clears_41 : decode cX8_clears 41 = .ok (.iadd, 1) := by decide +kernel
theorem dX8_clears_42 : decode cX8_clears 42 = .ok (.iconst 0, 1) := by decide +kernel
theorem dX8_clears_43 : decode cX8_clears 43 = .ok (.iastore, 1) := by decide +kernel
theorem dX8_clears_44 : decode cX8_clears 44 = .ok (.iinc 2 1, 3) := by decide +kernel
theorem dX8_clears_47 : decode cX8_clears 47 = .ok (.goto (-36), 3) := by decide +kernel
theorem dX8_clears_50 : decode cX8_clears 50 = .ok (.iconst 0, 1) := by decide +kernel
theorem dX8_clears_51 : decode cX8_clears 51 = .ok (.istore_n 2, 1) := by decide +kernel
theorem dX8_clears_52 : decode cX8_clears 52 = .ok (.iload_n 2, 1) := by decide +kernel
theorem dX8_clears_53 : decode cX8_clears 53 = .ok (.iconst 3, 1) := by decide +kernel
theorem dX8_clears_54 : decode cX8_clears 54 = .ok (.if_icmp .ge 23, 3) := by decide +kernel
theorem dX8_clears_57 : decode cX8_clears 57 = .ok (.aload_n 0, 1) := by decide +kernel
theorem dX8_clears_58 : decode cX8_clears 58 = .ok (.getfield 7, 3) := by decide +kernel
theorem dX8_clears_61 : decode cX8_clears 61 = .ok (.bipush 23, 2) := by decide +kernel
theorem dX8_clears_63 : decode cX8_clears 63 = .ok (.iconst 3, 1) := by decide +kernel
theorem dX8_clears_64 : decode cX8_clears 64 = .ok (.iload_n 1, 1) := by decide +kernel
theorem dX8_clears_65 : decode cX8_clears 65 = .ok (.imul, 1) := by decide +kernel
theorem dX8_clears_66 : decode cX8_clears 66 = .ok (.iadd, 1) := by decide +kernel
theorem dX8_clears_67 : decode cX8_clears 67 = .ok (.iload_n 2, 1) := by decide +kernel
theorem dX8_clears_68 : decode cX8_clears 68 = .ok (.iadd, 1) := by decide +kernel
theorem dX8_clears_69 : decode cX8_clears 69 = .ok (.iconst 0, 1) := by decide +kernel
theorem dX8_clears_70 : decode cX8_clears 70 = .ok (.iastore, 1) := by decide +kernel
theorem dX8_clears_71 : decode cX8_clears 71 = .ok (.iinc 2 1, 3) := by decide +kernel
theorem dX8_clears_74 : decode cX8_clears 74 = .ok (.goto (-22), 3) := by decide +kernel
theorem dX8_clears_77 : decode cX8_clears 77 = .ok (.return_, 1) := by decide +kernel
theorem dX8_capped_0 : decode cX8_capped 0 = .ok (.iload_n 0, 1) := by decide +kernel
theorem dX8_capped_1 : decode cX8_capped 1 = .ok (.bipush 6, 2) := by decide +kernel
theorem dX8_capped_3 : decode cX8_capped 3 = .ok (.if_icmp .le 8, 3) := by decide +kernel
theorem dX8_capped_6 : decode cX8_capped 6 = .ok (.bipush 6, 2) := by decide +kernel
theorem dX8_capped_8 : decode cX8_capped 8 = .ok (.goto 4, 3) := by decide +kernel
theorem dX8_capped_11 : decode cX8_capped 11 = .ok (.iload_n 0, 1) := by decide +kernel
theorem dX8_capped_12 : decode cX8_capped 12 = .ok (.ireturn, 1) := by decide +kernel
theorem dX8_join_0 : decode cX8_join 0 = .ok (.aload_n 0, 1) := by decide +kernel
theorem dX8_join_1 : decode cX8_join 1 = .ok (.iconst 0, 1) := by decide +kernel
theorem dX8_join_2 : decode cX8_join 2 = .ok (.putfield 50, 3) := by decide +kernel
theorem dX8_join_5 : decode cX8_join 5 = .ok (.aload_n 0, 1) := by decide +kernel
theorem dX8_join_6 : decode cX8_join 6 = .ok (.iload_n 1, 1) := by decide +kernel
theorem dX8_join_7 : decode cX8_join 7 = .ok (.invokevirtual 97, 3) := by decide +kernel
theorem dX8_join_10 : decode cX8_join 10 = .ok (.ifCond .eq 11, 3) := by decide +kernel
theorem dX8_join_13 : decode cX8_join 13 = .ok (.aload_n 0, 1) := by decide +kernel
theorem dX8_join_14 : decode cX8_join 14 = .ok (.iload_n 2, 1) := by decide +kernel
theorem dX8_join_15 : decode cX8_join 15 = .ok (.invokevirtual 97, 3) := by decide +kernel
theorem dX8_join_18 : decode cX8_join 18 = .ok (.ifCond .ne 5, 3) := by decide +kernel
theorem dX8_join_21 : decode cX8_join 21 = .ok (.iconst (-1), 1) := by decide +kernel
theorem dX8_join_22 : decode cX8_join 22 = .ok (.ireturn, 1) := by decide +kernel
theorem dX8_join_23 : decode cX8_join 23 = .ok (.iload_n 1, 1) := by decide +kernel
theorem dX8_join_24 : decode cX8_join 24 = .ok (.iload_n 2, 1) := by decide +kernel
theorem dX8_join_25 : decode cX8_join 25 = .ok (.if_icmp .ne 6, 3) := by decide +kernel
theorem dX8_join_28 : decode cX8_join 28 = .ok (.bipush (-2), 2) := by decide +kernel
theorem dX8_join_30 : decode cX8_join 30 = .ok (.ireturn, 1) := by decide +kernel
theorem dX8_join_31 : decode cX8_join 31 = .ok (.aload_n 0, 1) := by decide +kernel
theorem dX8_join_32 : decode cX8_join 32 = .ok (.invokevirtual 105, 3) := by decide +kernel
theorem dX8_join_35 : decode cX8_join 35 = .ok (.iload_n 1, 1) := by decide +kernel
theorem dX8_join_36 : decode cX8_join 36 = .ok (.iload_n 2, 1) := by decide +kernel
theorem dX8_join_37 : decode cX8_join 37 = .ok (.if_icmp .ge 7, 3) := by decide +kernel
theorem dX8_join_40 : decode cX8_join 40 = .ok (.iload_n 1, 1) := by decide +kernel
theorem dX8_join_41 : decode cX8_join 41 = .ok (.goto 4, 3) := by decide +kernel
theorem dX8_join_44 : decode cX8_join 44 = .ok (.iload_n 2, 1) := by decide +kernel
theorem dX8_join_45 : decode cX8_join 45 = .ok (.istore_n 3, 1) := by decide +kernel
theorem dX8_join_46 : decode cX8_join 46 = .ok (.iload_n 1, 1) := by decide +kernel
theorem dX8_join_47 : decode cX8_join 47 = .ok (.iload_n 2, 1) := by decide +kernel
theorem dX8_join_48 : decode cX8_join 48 = .ok (.iadd, 1) := by decide +kernel
theorem dX8_join_49 : decode cX8_join 49 = .ok (.iload_n 3, 1) := by decide +kernel
theorem dX8_join_50 : decode cX8_join 50 = .ok (.isub, 1) := by decide +kernel
theorem dX8_join_51 : decode cX8_join 51 = .ok (.istore 4, 2) := by decide +kernel
theorem dX8_join_53 : decode cX8_join 53 = .ok (.aload_n 0, 1) := by decide +kernel
theorem dX8_join_54 : decode cX8_join 54 = .ok (.iload_n 3, 1) := by decide +kernel
theorem dX8_join_55 : decode cX8_join 55 = .ok (.iload_n 3, 1) := by decide +kernel
theorem dX8_join_56 : decode cX8_join 56 = .ok (.invokevirtual 76, 3) := by decide +kernel
theorem dX8_join_59 : decode cX8_join 59 = .ok (.aload_n 0, 1) := by decide +kernel
theorem dX8_join_60 : decode cX8_join 60 = .ok (.iload_n 3, 1) := by decide +kernel
theorem dX8_join_61 : decode cX8_join 61 = .ok (.iload 4, 2) := by decide +kernel
theorem dX8_join_63 : decode cX8_join 63 = .ok (.invokevirtual 76, 3) := by decide +kernel
theorem dX8_join_66 : decode cX8_join 66 = .ok (.iadd, 1) := by decide +kernel
theorem dX8_join_67 : decode cX8_join 67 = .ok (.aload_n 0, 1) := by decide +kernel
theorem dX8_join_68 : decode cX8_join 68 = .ok (.iload 4, 2) := by decide +kernel
theorem dX8_join_70 : decode cX8_join 70 = .ok (.iload_n 3, 1) := by decide +kernel
theorem dX8_join_71 : decode cX8_join 71 = .ok (.invokevirtual 76, 3) := by decide +kernel
theorem dX8_join_74 : decode cX8_join 74 = .ok (.iadd, 1) := by decide +kernel
theorem dX8_join_75 : decode cX8_join 75 = .ok (.aload_n 0, 1) := by decide +kernel
theorem dX8_join_76 : decode cX8_join 76 = .ok (.iload 4, 2) := by decide +kernel
theorem dX8_join_78 : decode cX8_join 78 = .ok (.iload 4, 2) := by decide +kernel
theorem dX8_join_80 : decode cX8_join 80 = .ok (.invokevirtual 76, 3) := by decide +kernel
theorem dX8_join_83 : decode cX8_join 83 = .ok (.iadd, 1) := by decide +kernel
theorem dX8_join_84 : decode cX8_join 84 = .ok (.invokestatic 111, 3) := by decide +kernel
theorem dX8_join_87 : decode cX8_join 87 = .ok (.istore 5, 2) := by decide +kernel
theorem dX8_join_89 : decode cX8_join 89 = .ok (.aload_n 0, 1) := by decide +kernel
theorem dX8_join_90 : decode cX8_join 90 = .ok (.getfield 7, 3) := by decide +kernel
theorem dX8_join_93 : decode cX8_join 93 = .ok (.iconst 3, 1) := by decide +kernel
theorem dX8_join_94 : decode cX8_join 94 = .ok (.iload_n 3, 1) := by decide +kernel
theorem dX8_join_95 : decode cX8_join 95 = .ok (.iadd, 1) := by decide +kernel
theorem dX8_join_96 : decode cX8_join 96 = .ok (.aload_n 0, 1) := by decide +kernel
theorem dX8_join_97 : decode cX8_join 97 = .ok (.getfield 7, 3) := by decide +kernel
theorem dX8_join_100 : decode cX8_join 100 = .ok (.iconst 3, 1) := by decide +kernel
theorem dX8_join_101 : decode cX8_join 101 = .ok (.iload_n 3, 1) := by decide +kernel
theorem dX8_join_102 : decode cX8_join 102 = .ok (.iadd, 1) := by decide +kernel
theorem dX8_join_103 : decode cX8_join 103 = .ok (.iaload, 1) := by decide +kernel
theorem dX8_join_104 : decode cX8_join 104 = .ok (.aload_n 0, 1) := by decide +kernel
theorem dX8_join_105 : decode cX8_join 105 = .ok (.getfield 7, 3) := by decide +kernel
theorem dX8_join_108 : decode cX8_join 108 = .ok (.iconst 3, 1) := by decide +kernel
theorem dX8_join_109 : decode cX8_join 109 = .ok (.iload 4, 2) := by decide +kernel
theorem dX8_join_111 : decode cX8_join 111 = .ok (.iadd, 1) := by decide +kernel
theorem dX8_join_112 : decode cX8_join 112 = .ok (.iaload, 1) := by decide +kernel
theorem dX8_join_113 : decode cX8_join 113 = .ok (.iadd, 1) := by decide +kernel
theorem dX8_join_114 : decode cX8_join 114 = .ok (.invokestatic 111, 3) := by decide +kernel
theorem dX8_join_117 : decode cX8_join 117 = .ok (.iastore, 1) := by decide +kernel
theorem dX8_join_118 : decode cX8_join 118 = .ok (.iconst 0, 1) := by decide +kernel
theorem dX8_join_119 : decode cX8_join 119 = .ok (.istore 6, 2) := by decide +kernel
theorem dX8_join_121 : decode cX8_join 121 = .ok (.iload 6, 2) := by decide +kernel
theorem dX8_join_123 : decode cX8_join 123 = .ok (.iconst 3, 1) := by decide +kernel
theorem dX8_join_124 : decode cX8_join 124 = .ok (.if_icmp .ge 42, 3) := by decide +kernel
theorem dX8_join_127 : decode cX8_join 127 = .ok (.aload_n 0, 1) := by decide +kernel
theorem dX8_join_128 : decode cX8_join 128 = .ok (.getfield 7, 3) := by decide +kernel
theorem dX8_join_131 : decode cX8_join 131 = .ok (.bipush 23, 2) := by decide +kernel
theorem dX8_join_133 : decode cX8_join 133 = .ok (.iconst 3, 1) := by decide +kernel
theorem dX8_join_134 : decode cX8_join 134 = .ok (.iload_n 3, 1) := by decide +kernel
theorem dX8_join_135 : decode cX8_join 135 = .ok (.imul, 1) := by decide +kernel
theorem dX8_join_136 : decode cX8_join 136 = .ok (.iadd, 1) := by decide +kernel
theorem dX8_join_137 : decode cX8_join 137 = .ok (.iload 6, 2) := by decide +kernel
theorem dX8_join_139 : decode cX8_join 139 = .ok (.iadd, 1) := by decide +kernel
theorem dX8_join_140 : decode cX8_join 140 = .ok (.aload_n 0, 1) := by decide +kernel
theorem dX8_join_141 : decode cX8_join 141 = .ok (.iload_n 3, 1) := by decide +kernel
theorem dX8_join_142 : decode cX8_join 142 = .ok (.iload 6, 2) := by decide +kernel
theorem dX8_join_144 : decode cX8_join 144 = .ok (.invokevirtual 73, 3) := by decide +kernel
theorem dX8_join_147 : decode cX8_join 147 = .ok (.aload_n 0, 1) := by decide +kernel
theorem dX8_join_148 : decode cX8_join 148 = .ok (.iload 4, 2) := by decide +kernel
theorem dX8_join_150 : decode cX8_join 150 = .ok (.iload 6, 2) := by decide +kernel
theorem dX8_join_152 : decode cX8_join 152 = .ok (.invokevirtual 73, 3) := by decide +kernel
theorem dX8_join_155 : decode cX8_join 155 = .ok (.iadd, 1) := by decide +kernel
theorem dX8_join_156 : decode cX8_join 156 = .ok (.invokestatic 111, 3) := by decide +kernel
theorem dX8_join_159 : decode cX8_join 159 = .ok (.iastore, 1) := by decide +kernel
theorem dX8_join_160 : decode cX8_join 160 = .ok (.iinc 6 1, 3) := by decide +kernel
theorem dX8_join_163 : decode cX8_join 163 = .ok (.goto (-42), 3) := by decide +kernel
theorem dX8_join_166 : decode cX8_join 166 = .ok (.iconst 0, 1) := by decide +kernel
theorem dX8_join_167 : decode cX8_join 167 = .ok (.istore 6, 2) := by decide +kernel
theorem dX8_join_169 : decode cX8_join 169 = .ok (.iload 6, 2) := by decide +kernel
theorem dX8_join_171 : decode cX8_join 171 = .ok (.aload_n 0, 1) := by decide +kernel
theorem dX8_join_172 : decode cX8_join 172 = .ok (.getfield 7, 3) := by decide +kernel
theorem dX8_join_175 : decode cX8_join 175 = .ok (.iconst 0, 1) := by decide +kernel
theorem dX8_join_176 : decode cX8_join 176 = .ok (.iaload, 1) := by decide +kernel
theorem dX8_join_177 : decode cX8_join 177 = .ok (.if_icmp .ge 88, 3) := by decide +kernel
theorem dX8_join_180 : decode cX8_join 180 = .ok (.iload 6, 2) := by decide +kernel
theorem dX8_join_182 : decode cX8_join 182 = .ok (.iload_n 3, 1) := by decide +kernel
theorem dX8_join_183 : decode cX8_join 183 = .ok (.if_icmp .eq 76, 3) := by decide +kernel
theorem dX8_join_186 : decode cX8_join 186 = .ok (.iload 6, 2) := by decide +kernel
theorem dX8_join_188 : decode cX8_join 188 = .ok (.iload 4, 2) := by decide +kernel
theorem dX8_join_190 : decode cX8_join 190 = .ok (.if_icmp .eq 69, 3) := by decide +kernel
theorem dX8_join_193 : decode cX8_join 193 = .ok (.aload_n 0, 1) := by decide +kernel
theorem dX8_join_194 : decode cX8_join 194 = .ok (.getfield 7, 3) := by decide +kernel
theorem dX8_join_197 : decode cX8_join 197 = .ok (.bipush 7, 2) := by decide +kernel
theorem dX8_join_199 : decode cX8_join 199 = .ok (.iconst 4, 1) := by decide +kernel
theorem dX8_join_200 : decode cX8_join 200 = .ok (.iload_n 3, 1) := by decide +kernel
theorem dX8_join_201 : decode cX8_join 201 = .ok (.imul, 1) := by decide +kernel
theorem dX8_join_202 : decode cX8_join 202 = .ok (.iadd, 1) := by decide +kernel
theorem dX8_join_203 : decode cX8_join 203 = .ok (.iload 6, 2) := by decide +kernel
theorem dX8_join_205 : decode cX8_join 205 = .ok (.iadd, 1) := by decide +kernel
theorem dX8_join_206 : decode cX8_join 206 = .ok (.aload_n 0, 1) := by decide +kernel
theorem dX8_join_207 : decode cX8_join 207 = .ok (.iload_n 3, 1) := by decide +kernel
theorem dX8_join_208 : decode cX8_join 208 = .ok (.iload 6, 2) := by decide +kernel
theorem dX8_join_210 : decode cX8_join 210 = .ok (.invokevirtual 76, 3) := by decide +kernel
theorem dX8_join_213 : decode cX8_join 213 = .ok (.aload_n 0, 1) := by decide +kernel
theorem dX8_join_214 : decode cX8_join 214 = .ok (.iload 4, 2) := by decide +kernel
theorem dX8_join_216 : decode cX8_join 216 = .ok (.iload 6, 2) := by decide +kernel
theorem dX8_join_218 : decode cX8_join 218 = .ok (.invokevirtual 76, 3) := by decide +kernel
theorem dX8_join_221 : decode cX8_join 221 = .ok (.iadd, 1) := by decide +kernel
theorem dX8_join_222 : decode cX8_join 222 = .ok (.invokestatic 111, 3) := by decide +kernel
theorem dX8_join_225 : decode cX8_join 225 = .ok (.iastore, 1) := by decide +kernel
theorem dX8_join_226 : decode cX8_join 226 = .ok (.aload_n 0, 1) := by decide +kernel
theorem dX8_join_227 : decode cX8_join 227 = .ok (.getfield 7, 3) := by decide +kernel
theorem dX8_join_230 : decode cX8_join 230 = .ok (.bipush 7, 2) := by decide +kernel
theorem dX8_join_232 : decode cX8_join 232 = .ok (.iconst 4, 1) := by decide +kernel
theorem dX8_join_233 : decode cX8_join 233 = .ok (.iload 6, 2) := by decide +kernel
theorem dX8_join_235 : decode cX8_join 235 = .ok (.imul, 1) := by decide +kernel
theorem dX8_join_236 : decode cX8_join 236 = .ok (.iadd, 1) := by decide +kernel
theorem dX8_join_237 : decode cX8_join 237 = .ok (.iload_n 3, 1) := by decide +kernel
theorem dX8_join_238 : decode cX8_join 238 = .ok (.iadd, 1) := by decide +kernel
theorem dX8_join_239 : decode cX8_join 239 = .ok (.aload_n 0, 1) := by decide +kernel
theorem dX8_join_240 : decode cX8_join 240 = .ok (.iload 6, 2) := by decide +kernel
theorem dX8_join_242 : decode cX8_join 242 = .ok (.iload_n 3, 1) := by decide +kernel
theorem dX8_join_243 : decode cX8_join 243 = .ok (.invokevirtual 76, 3) := by decide +kernel
theorem dX8_join_246 : decode cX8_join 246 = .ok (.aload_n 0, 1) := by decide +kernel
theorem dX8_join_247 : decode cX8_join 247 = .ok (.iload 6, 2) := by decide +kernel
theorem dX8_join_249 : decode cX8_join 249 = .ok (.iload 4, 2) := by decide +kernel
theorem dX8_join_251 : decode cX8_join 251 = .ok (.invokevirtual 76, 3) := by decide +kernel
theorem dX8_join_254 : decode cX8_join 254 = .ok (.iadd, 1) := by decide +kernel
theorem dX8_join_255 : decode cX8_join 255 = .ok (.invokestatic 111, 3) := by decide +kernel
theorem dX8_join_258 : decode cX8_join 258 = .ok (.iastore, 1) := by decide +kernel
theorem dX8_join_259 : decode cX8_join 259 = .ok (.iinc 6 1, 3) := by decide +kernel
theorem dX8_join_262 : decode cX8_join 262 = .ok (.goto (-93), 3) := by decide +kernel
theorem dX8_join_265 : decode cX8_join 265 = .ok (.aload_n 0, 1) := by decide +kernel
theorem dX8_join_266 : decode cX8_join 266 = .ok (.getfield 7, 3) := by decide +kernel
theorem dX8_join_269 : decode cX8_join 269 = .ok (.bipush 7, 2) := by decide +kernel
theorem dX8_join_271 : decode cX8_join 271 = .ok (.iconst 4, 1) := by decide +kernel
theorem dX8_join_272 : decode cX8_join 272 = .ok (.iload_n 3, 1) := by decide +kernel
theorem dX8_join_273 : decode cX8_join 273 = .ok (.imul, 1) := by decide +kernel
theorem dX8_join_274 : decode cX8_join 274 = .ok (.iadd, 1) := by decide +kernel
theorem dX8_join_275 : decode cX8_join 275 = .ok (.iload_n 3, 1) := by decide +kernel
theorem dX8_join_276 : decode cX8_join 276 = .ok (.iadd, 1) := by decide +kernel
theorem dX8_join_277 : decode cX8_join 277 = .ok (.iload 5, 2) := by decide +kernel
theorem dX8_join_279 : decode cX8_join 279 = .ok (.iastore, 1) := by decide +kernel
theorem dX8_join_280 : decode cX8_join 280 = .ok (.aload_n 0, 1) := by decide +kernel
theorem dX8_join_281 : decode cX8_join 281 = .ok (.iload 4, 2) := by decide +kernel
theorem dX8_join_283 : decode cX8_join 283 = .ok (.invokevirtual 114, 3) := by decide +kernel
theorem dX8_join_286 : decode cX8_join 286 = .ok (.aload_n 0, 1) := by decide +kernel
theorem dX8_join_287 : decode cX8_join 287 = .ok (.getfield 7, 3) := by decide +kernel
theorem dX8_join_290 : decode cX8_join 290 = .ok (.iconst 0, 1) := by decide +kernel
theorem dX8_join_291 : decode cX8_join 291 = .ok (.iaload, 1) := by decide +kernel
theorem dX8_join_292 : decode cX8_join 292 = .ok (.ireturn, 1) := by decide +kernel
theorem dX8_removeState_0 : decode cX8_removeState 0 = .ok (.aload_n 0, 1) := by decide +kernel
theorem dX8_removeState_1 : decode cX8_removeState 1 = .ok (.iconst 0, 1) := by decide +kernel
theorem dX8_removeState_2 : decode cX8_removeState 2 = .ok (.putfield 50, 3) := by decide +kernel
theorem dX8_removeState_5 : decode cX8_removeState 5 = .ok (.aload_n 0, 1) := by decide +kernel
theorem dX8_removeState_6 : decode cX8_removeState 6 = .ok (.iload_n 1, 1) := by decide +kernel
theorem dX8_removeState_7 : decode cX8_removeState 7 = .ok (.invokevirtual 97, 3) := by decide +kernel
theorem dX8_removeState_10 : decode cX8_removeState 10 = .ok (.ifCond .ne 5, 3) := by decide +kernel
theorem dX8_removeState_13 : decode cX8_removeState 13 = .ok (.iconst (-1), 1) := by decide +kernel
theorem dX8_removeState_14 : decode cX8_removeState 14 = .ok (.ireturn, 1) := by decide +kernel
theorem dX8_removeState_15 : decode cX8_removeState 15 = .ok (.aload_n 0, 1) := by decide +kernel
theorem dX8_removeState_16 : decode cX8_removeState 16 = .ok (.getfield 7, 3) := by decide +kernel
theorem dX8_removeState_19 : decode cX8_removeState 19 = .ok (.iconst 0, 1) := by decide +kernel
theorem dX8_removeState_20 : decode cX8_removeState 20 = .ok (.iaload, 1) := by decide +kernel
theorem dX8_removeState_21 : decode cX8_removeState 21 = .ok (.iconst 1, 1) := by decide +kernel
theorem dX8_removeState_22 : decode cX8_removeState 22 = .ok (.if_icmp .ne 6, 3) := by decide +kernel
theorem dX8_removeState_25 : decode cX8_removeState 25 = .ok (.bipush (-4), 2) := by decide +kernel
theorem dX8_removeState_27 : decode cX8_removeState 27 = .ok (.ireturn, 1) := by decide +kernel
theorem dX8_removeState_28 : decode cX8_removeState 28 = .ok (.aload_n 0, 1) := by decide +kernel
theorem dX8_removeState_29 : decode cX8_removeState 29 = .ok (.invokevirtual 105, 3) := by decide +kernel
theorem dX8_removeState_32 : decode cX8_removeState 32 = .ok (.aload_n 0, 1) := by decide +kernel
theorem dX8_removeState_33 : decode cX8_removeState 33 = .ok (.iload_n 1, 1) := by decide +kernel
theorem dX8_removeState_34 : decode cX8_removeState 34 = .ok (.invokevirtual 114, 3) := by decide +kernel
theorem dX8_removeState_37 : decode cX8_removeState 37 = .ok (.aload_n 0, 1) := by decide +kernel
theorem dX8_removeState_38 : decode cX8_removeState 38 = .ok (.getfield 7, 3) := by decide +kernel
theorem dX8_removeState_41 : decode cX8_removeState 41 = .ok (.iconst 0, 1) := by decide +kernel
theorem dX8_removeState_42 : decode cX8_removeState 42 = .ok (.iaload, 1) := by decide +kernel
theorem dX8_removeState_43 : decode cX8_removeState 43 = .ok (.ireturn, 1) := by decide +kernel
theorem dX8_setBound_0 : decode cX8_setBound 0 = .ok (.aload_n 0, 1) := by decide +kernel
theorem dX8_setBound_1 : decode cX8_setBound 1 = .ok (.iconst 0, 1) := by decide +kernel
theorem dX8_setBound_2 : decode cX8_setBound 2 = .ok (.putfield 50, 3) := by decide +kernel
theorem dX8_setBound_5 : decode cX8_setBound 5 = .ok (.iload_n 1, 1) := by decide +kernel
theorem dX8_setBound_6 : decode cX8_setBound 6 = .ok (.sipush 500, 3) := by decide +kernel
theorem dX8_setBound_9 : decode cX8_setBound 9 = .ok (.sipush 1000, 3) := by decide +kernel
theorem dX8_setBound_12 : decode cX8_setBound 12 = .ok (.invokestatic 58, 3) := by decide +kernel
theorem dX8_setBound_15 : decode cX8_setBound 15 = .ok (.ifCond .ne 6, 3) := by decide +kernel
theorem dX8_setBound_18 : decode cX8_setBound 18 = .ok (.bipush (-2), 2) := by decide +kernel
theorem dX8_setBound_20 : decode cX8_setBound 20 = .ok (.ireturn, 1) := by decide +kernel
theorem dX8_setBound_21 : decode cX8_setBound 21 = .ok (.aload_n 0, 1) := by decide +kernel
theorem dX8_setBound_22 : decode cX8_setBound 22 = .ok (.getfield 7, 3) := by decide +kernel
theorem dX8_setBound_25 : decode cX8_setBound 25 = .ok (.iconst 2, 1) := by decide +kernel
theorem dX8_setBound_26 : decode cX8_setBound 26 = .ok (.iaload, 1) := by decide +kernel
theorem dX8_setBound_27 : decode cX8_setBound 27 = .ok (.istore_n 2, 1) := by decide +kernel
theorem dX8_setBound_28 : decode cX8_setBound 28 = .ok (.iload_n 2, 1) := by decide +kernel
theorem dX8_setBound_29 : decode cX8_setBound 29 = .ok (.iload_n 1, 1) := by decide +kernel
theorem dX8_setBound_30 : decode cX8_setBound 30 = .ok (.if_icmp .ne 6, 3) := by decide +kernel
theorem dX8_setBound_33 : decode cX8_setBound 33 = .ok (.bipush (-5), 2) := by decide +kernel
theorem dX8_setBound_35 : decode cX8_setBound 35 = .ok (.ireturn, 1) := by decide +kernel
theorem dX8_setBound_36 : decode cX8_setBound 36 = .ok (.aload_n 0, 1) := by decide +kernel
theorem dX8_setBound_37 : decode cX8_setBound 37 = .ok (.invokevirtual 105, 3) := by decide +kernel
theorem dX8_setBound_40 : decode cX8_setBound 40 = .ok (.aload_n 0, 1) := by decide +kernel
theorem dX8_setBound_41 : decode cX8_setBound 41 = .ok (.getfield 7, 3) := by decide +kernel
theorem dX8_setBound_44 : decode cX8_setBound 44 = .ok (.iconst 2, 1) := by decide +kernel
theorem dX8_setBound_45 : decode cX8_setBound 45 = .ok (.iload_n 1, 1) := by decide +kernel
theorem dX8_setBound_46 : decode cX8_setBound 46 = .ok (.iastore, 1) := by decide +kernel
theorem dX8_setBound_47 : decode cX8_setBound 47 = .ok (.iload_n 2, 1) := by decide +kernel
theorem dX8_setBound_48 : decode cX8_setBound 48 = .ok (.ireturn, 1) := by decide +kernel
theorem dX8_letter_0 : decode cX8_letter 0 = .ok (.aload_n 0, 1) := by decide +kernel
theorem dX8_letter_1 : decode cX8_letter 1 = .ok (.getfield 117, 3) := by decide +kernel
theorem dX8_letter_4 : decode cX8_letter 4 = .ok (.aload_n 0, 1) := by decide +kernel
theorem dX8_letter_5 : decode cX8_letter 5 = .ok (.getfield 120, 3) := by decide +kernel
theorem dX8_letter_8 : decode cX8_letter 8 = .ok (.if_icmp .ge 15, 3) := by decide +kernel
theorem dX8_letter_11 : decode cX8_letter 11 = .ok (.aload_n 0, 1) := by decide +kernel
theorem dX8_letter_12 : decode cX8_letter 12 = .ok (.getfield 22, 3) := by decide +kernel
theorem dX8_letter_15 : decode cX8_letter 15 = .ok (.aload_n 0, 1) := by decide +kernel
theorem dX8_letter_16 : decode cX8_letter 16 = .ok (.getfield 117, 3) := by decide +kernel
theorem dX8_letter_19 : decode cX8_letter 19 = .ok (.iaload, 1) := by decide +kernel
theorem dX8_letter_20 : decode cX8_letter 20 = .ok (.goto 4, 3) := by decide +kernel
theorem dX8_letter_23 : decode cX8_letter 23 = .ok (.iconst 0, 1) := by decide +kernel
theorem dX8_letter_24 : decode cX8_letter 24 = .ok (.ireturn, 1) := by decide +kernel
theorem dX8_readsSample_0 : decode cX8_readsSample 0 = .ok (.iconst 0, 1) := by decide +kernel
theorem dX8_readsSample_1 : decode cX8_readsSample 1 = .ok (.istore_n 1, 1) := by decide +kernel
theorem dX8_readsSample_2 : decode cX8_readsSample 2 = .ok (.iload_n 1, 1) := by decide +kernel
theorem dX8_readsSample_3 : decode cX8_readsSample 3 = .ok (.bipush 7, 2) := by decide +kernel
theorem dX8_readsSample_5 : decode cX8_readsSample 5 = .ok (.if_icmp .ge 56, 3) := by decide +kernel
theorem dX8_readsSample_8 : decode cX8_readsSample 8 = .ok (.aload_n 0, 1) := by decide +kernel
theorem dX8_readsSample_9 : decode cX8_readsSample 9 = .ok (.invokevirtual 123, 3) := by decide +kernel
theorem dX8_readsSample_12 : decode cX8_readsSample 12 = .ok (.bipush 97, 2) := by decide +kernel
theorem dX8_readsSample_14 : decode cX8_readsSample 14 = .ok (.bipush 99, 2) := by decide +kernel
theorem dX8_readsSample_16 : decode cX8_readsSample 16 = .ok (.invokestatic 58, 3) := by decide +kernel
theorem dX8_readsSample_19 : decode cX8_readsSample 19 = .ok (.ifCond .eq 42, 3) := by decide +kernel
theorem dX8_readsSample_22 : decode cX8_readsSample 22 = .ok (.aload_n 0, 1) := by decide +kernel
theorem dX8_readsSample_23 : decode cX8_readsSample 23 = .ok (.getfield 47, 3) := by decide +kernel
theorem dX8_readsSample_26 : decode cX8_readsSample 26 = .ok (.bipush 8, 2) := by decide +kernel
theorem dX8_readsSample_28 : decode cX8_readsSample 28 = .ok (.aload_n 0, 1) := by decide +kernel
theorem dX8_readsSample_29 : decode cX8_readsSample 29 = .ok (.getfield 127, 3) := by decide +kernel
theorem dX8_readsSample_32 : decode cX8_readsSample 32 = .ok (.imul, 1) := by decide +kernel
theorem dX8_readsSample_33 : decode cX8_readsSample 33 = .ok (.iconst 1, 1) := by decide +kernel
theorem dX8_readsSample_34 : decode cX8_readsSample 34 = .ok (.iadd, 1) := by decide +kernel
theorem dX8_readsSample_35 : decode cX8_readsSample 35 = .ok (.iload_n 1, 1) := by decide +kernel
theorem dX8_readsSample_36 : decode cX8_readsSample 36 = .ok (.iadd, 1) := by decide +kernel
theorem dX8_readsSample_37 : decode cX8_readsSample 37 = .ok (.aload_n 0, 1) := by decide +kernel
theorem dX8_readsSample_38 : decode cX8_readsSample 38 = .ok (.invokevirtual 123, 3) := by decide +kernel
theorem dX8_readsSample_41 : decode cX8_readsSample 41 = .ok (.bipush 97, 2) := by decide +kernel
theorem dX8_readsSample_43 : decode cX8_readsSample 43 = .ok (.isub, 1) := by decide +kernel
theorem dX8_readsSample_44 : decode cX8_readsSample 44 = .ok (.iastore, 1) := by decide +kernel
theorem dX8_readsSample_45 : decode cX8_readsSample 45 = .ok (.iinc 1 1, 3) := by decide +kernel
theorem dX8_readsSample_48 : decode cX8_readsSample 48 = .ok (.aload_n 0, 1) := by decide +kernel
theorem dX8_readsSample_49 : decode cX8_readsSample 49 = .ok (.dup, 1) := by decide +kernel
theorem dX8_readsSample_50 : decode cX8_readsSample 50 = .ok (.getfield 117, 3) := by decide +kernel
theorem dX8_readsSample_53 : decode cX8_readsSample 53 = .ok (.iconst 1, 1) := by decide +kernel
theorem dX8_readsSample_54 : decode cX8_readsSample 54 = .ok (.iadd, 1) := by decide +kernel
theorem dX8_readsSample_55 : decode cX8_readsSample 55 = .ok (.putfield 117, 3) := by decide +kernel
theorem dX8_readsSample_58 : decode cX8_readsSample 58 = .ok (.goto (-56), 3) := by decide +kernel
theorem dX8_readsSample_61 : decode cX8_readsSample 61 = .ok (.aload_n 0, 1) := by decide +kernel
theorem dX8_readsSample_62 : decode cX8_readsSample 62 = .ok (.getfield 47, 3) := by decide +kernel
theorem dX8_readsSample_65 : decode cX8_readsSample 65 = .ok (.bipush 8, 2) := by decide +kernel
theorem dX8_readsSample_67 : decode cX8_readsSample 67 = .ok (.aload_n 0, 1) := by decide +kernel
theorem dX8_readsSample_68 : decode cX8_readsSample 68 = .ok (.getfield 127, 3) := by decide +kernel
theorem dX8_readsSample_71 : decode cX8_readsSample 71 = .ok (.imul, 1) := by decide +kernel
theorem dX8_readsSample_72 : decode cX8_readsSample 72 = .ok (.iload_n 1, 1) := by decide +kernel
theorem dX8_readsSample_73 : decode cX8_readsSample 73 = .ok (.iastore, 1) := by decide +kernel
theorem dX8_readsSample_74 : decode cX8_readsSample 74 = .ok (.aload_n 0, 1) := by decide +kernel
theorem dX8_readsSample_75 : decode cX8_readsSample 75 = .ok (.iload_n 1, 1) := by decide +kernel
theorem dX8_readsSample_76 : decode cX8_readsSample 76 = .ok (.ifCond .le 7, 3) := by decide +kernel
theorem dX8_readsSample_79 : decode cX8_readsSample 79 = .ok (.iconst 1, 1) := by decide +kernel
theorem dX8_readsSample_80 : decode cX8_readsSample 80 = .ok (.goto 4, 3) := by decide +kernel
theorem dX8_readsSample_83 : decode cX8_readsSample 83 = .ok (.iconst 0, 1) := by decide +kernel
theorem dX8_readsSample_84 : decode cX8_readsSample 84 = .ok (.putfield 130, 3) := by decide +kernel
theorem dX8_readsSample_87 : decode cX8_readsSample 87 = .ok (.aload_n 0, 1) := by decide +kernel
theorem dX8_readsSample_88 : decode cX8_readsSample 88 = .ok (.dup, 1) := by decide +kernel
theorem dX8_readsSample_89 : decode cX8_readsSample 89 = .ok (.getfield 127, 3) := by decide +kernel
theorem dX8_readsSample_92 : decode cX8_readsSample 92 = .ok (.iconst 1, 1) := by decide +kernel
theorem dX8_readsSample_93 : decode cX8_readsSample 93 = .ok (.iadd, 1) := by decide +kernel
theorem dX8_readsSample_94 : decode cX8_readsSample 94 = .ok (.putfield 127, 3) := by decide +kernel
theorem dX8_readsSample_97 : decode cX8_readsSample 97 = .ok (.return_, 1) := by decide +kernel
theorem dX8_reads_0 : decode cX8_reads 0 = .ok (.aload_n 0, 1) := by decide +kernel
theorem dX8_reads_1 : decode cX8_reads 1 = .ok (.iconst 0, 1) := by decide +kernel
theorem dX8_reads_2 : decode cX8_reads 2 = .ok (.putfield 117, 3) := by decide +kernel
theorem dX8_reads_5 : decode cX8_reads 5 = .ok (.aload_n 0, 1) := by decide +kernel
theorem dX8_reads_6 : decode cX8_reads 6 = .ok (.iconst 1, 1) := by decide +kernel
theorem dX8_reads_7 : decode cX8_reads 7 = .ok (.putfield 130, 3) := by decide +kernel
theorem dX8_reads_10 : decode cX8_reads 10 = .ok (.aload_n 0, 1) := by decide +kernel
theorem dX8_reads_11 : decode cX8_reads 11 = .ok (.iconst 0, 1) := by decide +kernel
theorem dX8_reads_12 : decode cX8_reads 12 = .ok (.putfield 127, 3) := by decide +kernel
theorem dX8_reads_15 : decode cX8_reads 15 = .ok (.aload_n 0, 1) := by decide +kernel
theorem dX8_reads_16 : decode cX8_reads 16 = .ok (.invokevirtual 134, 3) := by decide +kernel
theorem dX8_reads_19 : decode cX8_reads 19 = .ok (.aload_n 0, 1) := by decide +kernel
theorem dX8_reads_20 : decode cX8_reads 20 = .ok (.getfield 130, 3) := by decide +kernel
theorem dX8_reads_23 : decode cX8_reads 23 = .ok (.ifCond .eq 67, 3) := by decide +kernel
theorem dX8_reads_26 : decode cX8_reads 26 = .ok (.aload_n 0, 1) := by decide +kernel
theorem dX8_reads_27 : decode cX8_reads 27 = .ok (.getfield 117, 3) := by decide +kernel
theorem dX8_reads_30 : decode cX8_reads 30 = .ok (.aload_n 0, 1) := by decide +kernel
theorem dX8_reads_31 : decode cX8_reads 31 = .ok (.getfield 120, 3) := by decide +kernel
theorem dX8_reads_34 : decode cX8_reads 34 = .ok (.if_icmp .ge 56, 3) := by decide +kernel
theorem dX8_reads_37 : decode cX8_reads 37 = .ok (.aload_n 0, 1) := by decide +kernel
theorem dX8_reads_38 : decode cX8_reads 38 = .ok (.aload_n 0, 1) := by decide +kernel
theorem dX8_reads_39 : decode cX8_reads 39 = .ok (.invokevirtual 123, 3) := by decide +kernel
theorem dX8_reads_42 : decode cX8_reads 42 = .ok (.bipush 59, 2) := by decide +kernel
theorem dX8_reads_44 : decode cX8_reads 44 = .ok (.if_icmp .ne 7, 3) := by decide +kernel
theorem dX8_reads_47 : decode cX8_reads 47 = .ok (.iconst 1, 1) := by decide +kernel
theorem dX8_reads_48 : decode cX8_reads 48 = .ok (.goto 4, 3) := by decide +kernel
theorem dX8_reads_51 : decode cX8_reads 51 = .ok (.iconst 0, 1) := by decide +kernel
theorem dX8_reads_52 : decode cX8_reads 52 = .ok (.putfield 130, 3) := by decide +kernel
theorem dX8_reads_55 : decode cX8_reads 55 = .ok (.aload_n 0, 1) := by decide +kernel
theorem dX8_reads_56 : decode cX8_reads 56 = .ok (.dup, 1) := by decide +kernel
theorem dX8_reads_57 : decode cX8_reads 57 = .ok (.getfield 117, 3) := by decide +kernel
theorem dX8_reads_60 : decode cX8_reads 60 = .ok (.aload_n 0, 1) := by decide +kernel
theorem dX8_reads_61 : decode cX8_reads 61 = .ok (.getfield 130, 3) := by decide +kernel
theorem dX8_reads_64 : decode cX8_reads 64 = .ok (.ifCond .eq 7, 3) := by decide +kernel
theorem dX8_reads_67 : decode cX8_reads 67 = .ok (.iconst 1, 1) := by decide +kernel
theorem dX8_reads_68 : decode cX8_reads 68 = .ok (.goto 4, 3) := by decide +kernel
theorem dX8_reads_71 : decode cX8_reads 71 = .ok (.iconst 0, 1) := by decide +kernel
theorem dX8_reads_72 : decode cX8_reads 72 = .ok (.iadd, 1) := by decide +kernel
theorem dX8_reads_73 : decode cX8_reads 73 = .ok (.putfield 117, 3) := by decide +kernel
theorem dX8_reads_76 : decode cX8_reads 76 = .ok (.aload_n 0, 1) := by decide +kernel
theorem dX8_reads_77 : decode cX8_reads 77 = .ok (.getfield 130, 3) := by decide +kernel
theorem dX8_reads_80 : decode cX8_reads 80 = .ok (.ifCond .eq (-61), 3) := by decide +kernel
theorem dX8_reads_83 : decode cX8_reads 83 = .ok (.aload_n 0, 1) := by decide +kernel
theorem dX8_reads_84 : decode cX8_reads 84 = .ok (.invokevirtual 134, 3) := by decide +kernel
theorem dX8_reads_87 : decode cX8_reads 87 = .ok (.goto (-68), 3) := by decide +kernel
theorem dX8_reads_90 : decode cX8_reads 90 = .ok (.aload_n 0, 1) := by decide +kernel
theorem dX8_reads_91 : decode cX8_reads 91 = .ok (.getfield 130, 3) := by decide +kernel
theorem dX8_reads_94 : decode cX8_reads 94 = .ok (.ifCond .eq 8, 3) := by decide +kernel
theorem dX8_reads_97 : decode cX8_reads 97 = .ok (.bipush (-5), 2) := by decide +kernel
theorem dX8_reads_99 : decode cX8_reads 99 = .ok (.goto 7, 3) := by decide +kernel
theorem dX8_reads_102 : decode cX8_reads 102 = .ok (.aload_n 0, 1) := by decide +kernel
theorem dX8_reads_103 : decode cX8_reads 103 = .ok (.getfield 117, 3) := by decide +kernel
theorem dX8_reads_106 : decode cX8_reads 106 = .ok (.ireturn, 1) := by decide +kernel
theorem dX8_addSamples_0 : decode cX8_addSamples 0 = .ok (.aload_n 0, 1) := by decide +kernel
theorem dX8_addSamples_1 : decode cX8_addSamples 1 = .ok (.iconst 0, 1) := by decide +kernel
theorem dX8_addSamples_2 : decode cX8_addSamples 2 = .ok (.putfield 50, 3) := by decide +kernel
theorem dX8_addSamples_5 : decode cX8_addSamples 5 = .ok (.aload_n 0, 1) := by decide +kernel
theorem dX8_addSamples_6 : decode cX8_addSamples 6 = .ok (.invokevirtual 137, 3) := by decide +kernel
theorem dX8_addSamples_9 : decode cX8_addSamples 9 = .ok (.istore_n 1, 1) := by decide +kernel
theorem dX8_addSamples_10 : decode cX8_addSamples 10 = .ok (.iload_n 1, 1) := by decide +kernel
theorem dX8_addSamples_11 : decode cX8_addSamples 11 = .ok (.bipush (-5), 2) := by decide +kernel
theorem dX8_addSamples_13 : decode cX8_addSamples 13 = .ok (.if_icmp .eq 8, 3) := by decide +kernel
theorem dX8_addSamples_16 : decode cX8_addSamples 16 = .ok (.bipush (-100), 2) := by decide +kernel
theorem dX8_addSamples_18 : decode cX8_addSamples 18 = .ok (.iload_n 1, 1) := by decide +kernel
theorem dX8_addSamples_19 : decode cX8_addSamples 19 = .ok (.isub, 1) := by decide +kernel
theorem dX8_addSamples_20 : decode cX8_addSamples 20 = .ok (.ireturn, 1) := by decide +kernel
theorem dX8_addSamples_21 : decode cX8_addSamples 21 = .ok (.aload_n 0, 1) := by decide +kernel
theorem dX8_addSamples_22 : decode cX8_addSamples 22 = .ok (.getfield 7, 3) := by decide +kernel
theorem dX8_addSamples_25 : decode cX8_addSamples 25 = .ok (.iconst 1, 1) := by decide +kernel
theorem dX8_addSamples_26 : decode cX8_addSamples 26 = .ok (.iaload, 1) := by decide +kernel
theorem dX8_addSamples_27 : decode cX8_addSamples 27 = .ok (.aload_n 0, 1) := by decide +kernel
theorem dX8_addSamples_28 : decode cX8_addSamples 28 = .ok (.getfield 127, 3) := by decide +kernel
theorem dX8_addSamples_31 : decode cX8_addSamples 31 = .ok (.iadd, 1) := by decide +kernel
theorem dX8_addSamples_32 : decode cX8_addSamples 32 = .ok (.bipush 6, 2) := by decide +kernel
theorem dX8_addSamples_34 : decode cX8_addSamples 34 = .ok (.if_icmp .le 6, 3) := by decide +kernel
theorem dX8_addSamples_37 : decode cX8_addSamples 37 = .ok (.bipush (-3), 2) := by decide +kernel
theorem dX8_addSamples_39 : decode cX8_addSamples 39 = .ok (.ireturn, 1) := by decide +kernel
theorem dX8_addSamples_40 : decode cX8_addSamples 40 = .ok (.aload_n 0, 1) := by decide +kernel
theorem dX8_addSamples_41 : decode cX8_addSamples 41 = .ok (.invokevirtual 105, 3) := by decide +kernel
theorem dX8_addSamples_44 : decode cX8_addSamples 44 = .ok (.iconst 0, 1) := by decide +kernel
theorem dX8_addSamples_45 : decode cX8_addSamples 45 = .ok (.istore_n 2, 1) := by decide +kernel
theorem dX8_addSamples_46 : decode cX8_addSamples 46 = .ok (.iload_n 2, 1) := by decide +kernel
theorem dX8_addSamples_47 : decode cX8_addSamples 47 = .ok (.aload_n 0, 1) := by decide +kernel
theorem dX8_addSamples_48 : decode cX8_addSamples 48 = .ok (.getfield 127, 3) := by decide +kernel
theorem dX8_addSamples_51 : decode cX8_addSamples 51 = .ok (.if_icmp .ge 80, 3) := by decide +kernel
theorem dX8_addSamples_54 : decode cX8_addSamples 54 = .ok (.iconst 0, 1) := by decide +kernel
theorem dX8_addSamples_55 : decode cX8_addSamples 55 = .ok (.istore_n 3, 1) := by decide +kernel
theorem dX8_addSamples_56 : decode cX8_addSamples 56 = .ok (.iload_n 3, 1) := by decide +kernel
theorem dX8_addSamples_57 : decode cX8_addSamples 57 = .ok (.bipush 8, 2) := by decide +kernel
theorem dX8_addSamples_59 : decode cX8_addSamples 59 = .ok (.if_icmp .ge 56, 3) := by decide +kernel
theorem dX8_addSamples_62 : decode cX8_addSamples 62 = .ok (.aload_n 0, 1) := by decide +kernel
theorem dX8_addSamples_63 : decode cX8_addSamples 63 = .ok (.getfield 7, 3) := by decide +kernel
theorem dX8_addSamples_66 : decode cX8_addSamples 66 = .ok (.bipush 35, 2) := by decide +kernel
theorem dX8_addSamples_68 : decode cX8_addSamples 68 = .ok (.bipush 8, 2) := by decide +kernel
theorem dX8_addSamples_70 : decode cX8_addSamples 70 = .ok (.aload_n 0, 1) := by decide +kernel
theorem dX8_addSamples_71 : decode cX8_addSamples 71 = .ok (.getfield 7, 3) := by decide +kernel
theorem dX8_addSamples_74 : decode cX8_addSamples 74 = .ok (.iconst 1, 1) := by decide +kernel
theorem dX8_addSamples_75 : decode cX8_addSamples 75 = .ok (.iaload, 1) := by decide +kernel
theorem dX8_addSamples_76 : decode cX8_addSamples 76 = .ok (.imul, 1) := by decide +kernel
theorem dX8_addSamples_77 : decode cX8_addSamples 77 = .ok (.iadd, 1) := by decide +kernel
theorem dX8_addSamples_78 : decode cX8_addSamples 78 = .ok (.iload_n 3, 1) := by decide +kernel
theorem dX8_addSamples_79 : decode cX8_addSamples 79 = .ok (.iadd, 1) := by decide +kernel
theorem dX8_addSamples_80 : decode cX8_addSamples 80 = .ok (.iload_n 3, 1) := by decide +kernel
theorem dX8_addSamples_81 : decode cX8_addSamples 81 = .ok (.aload_n 0, 1) := by decide +kernel
theorem dX8_addSamples_82 : decode cX8_addSamples 82 = .ok (.getfield 47, 3) := by decide +kernel
theorem dX8_addSamples_85 : decode cX8_addSamples 85 = .ok (.bipush 8, 2) := by decide +kernel
theorem dX8_addSamples_87 : decode cX8_addSamples 87 = .ok (.iload_n 2, 1) := by decide +kernel
theorem dX8_addSamples_88 : decode cX8_addSamples 88 = .ok (.imul, 1) := by decide +kernel
theorem dX8_addSamples_89 : decode cX8_addSamples 89 = .ok (.iaload, 1) := by decide +kernel
theorem dX8_addSamples_90 : decode cX8_addSamples 90 = .ok (.if_icmp .gt 17, 3) := by decide +kernel
theorem dX8_addSamples_93 : decode cX8_addSamples 93 = .ok (.aload_n 0, 1) := by decide +kernel
theorem dX8_addSamples_94 : decode cX8_addSamples 94 = .ok (.getfield 47, 3) := by decide +kernel
theorem dX8_addSamples_97 : decode cX8_addSamples 97 = .ok (.bipush 8, 2) := by decide +kernel
theorem dX8_addSamples_99 : decode cX8_addSamples 99 = .ok (.iload_n 2, 1) := by decide +kernel
theorem dX8_addSamples_100 : decode cX8_addSamples 100 = .ok (.imul, 1) := by decide +kernel
theorem dX8_addSamples_101 : decode cX8_addSamples 101 = .ok (.iload_n 3, 1) := by decide +kernel
theorem dX8_addSamples_102 : decode cX8_addSamples 102 = .ok (.iadd, 1) := by decide +kernel
theorem dX8_addSamples_103 : decode cX8_addSamples 103 = .ok (.iaload, 1) := by decide +kernel
theorem dX8_addSamples_104 : decode cX8_addSamples 104 = .ok (.goto 4, 3) := by decide +kernel
theorem dX8_addSamples_107 : decode cX8_addSamples 107 = .ok (.iconst 0, 1) := by decide +kernel
theorem dX8_addSamples_108 : decode cX8_addSamples 108 = .ok (.iastore, 1) := by decide +kernel
theorem dX8_addSamples_109 : decode cX8_addSamples 109 = .ok (.iinc 3 1, 3) := by decide +kernel
theorem dX8_addSamples_112 : decode cX8_addSamples 112 = .ok (.goto (-56), 3) := by decide +kernel
theorem dX8_addSamples_115 : decode cX8_addSamples 115 = .ok (.aload_n 0, 1) := by decide +kernel
theorem dX8_addSamples_116 : decode cX8_addSamples 116 = .ok (.getfield 7, 3) := by decide +kernel
theorem dX8_addSamples_119 : decode cX8_addSamples 119 = .ok (.iconst 1, 1) := by decide +kernel
theorem dX8_addSamples_120 : decode cX8_addSamples 120 = .ok (.dup2, 1) := by decide +kernel
theorem dX8_addSamples_121 : decode cX8_addSamples 121 = .ok (.iaload, 1) := by decide +kernel
theorem dX8_addSamples_122 : decode cX8_addSamples 122 = .ok (.iconst 1, 1) := by decide +kernel
theorem dX8_addSamples_123 : decode cX8_addSamples 123 = .ok (.iadd, 1) := by decide +kernel
theorem dX8_addSamples_124 : decode cX8_addSamples 124 = .ok (.iastore, 1) := by decide +kernel
theorem dX8_addSamples_125 : decode cX8_addSamples 125 = .ok (.iinc 2 1, 3) := by decide +kernel
theorem dX8_addSamples_128 : decode cX8_addSamples 128 = .ok (.goto (-82), 3) := by decide +kernel
theorem dX8_addSamples_131 : decode cX8_addSamples 131 = .ok (.aload_n 0, 1) := by decide +kernel
theorem dX8_addSamples_132 : decode cX8_addSamples 132 = .ok (.getfield 127, 3) := by decide +kernel
theorem dX8_addSamples_135 : decode cX8_addSamples 135 = .ok (.ireturn, 1) := by decide +kernel
theorem dX8_removeSample_0 : decode cX8_removeSample 0 = .ok (.aload_n 0, 1) := by decide +kernel
theorem dX8_removeSample_1 : decode cX8_removeSample 1 = .ok (.iconst 0, 1) := by decide +kernel
theorem dX8_removeSample_2 : decode cX8_removeSample 2 = .ok (.putfield 50, 3) := by decide +kernel
theorem dX8_removeSample_5 : decode cX8_removeSample 5 = .ok (.aload_n 0, 1) := by decide +kernel
theorem dX8_removeSample_6 : decode cX8_removeSample 6 = .ok (.iload_n 1, 1) := by decide +kernel
theorem dX8_removeSample_7 : decode cX8_removeSample 7 = .ok (.invokevirtual 140, 3) := by decide +kernel
theorem dX8_removeSample_10 : decode cX8_removeSample 10 = .ok (.ifCond .ne 5, 3) := by decide +kernel
theorem dX8_removeSample_13 : decode cX8_removeSample 13 = .ok (.iconst (-1), 1) := by decide +kernel
theorem dX8_removeSample_14 : decode cX8_removeSample 14 = .ok (.ireturn, 1) := by decide +kernel
theorem dX8_removeSample_15 : decode cX8_removeSample 15 = .ok (.aload_n 0, 1) := by decide +kernel
theorem dX8_removeSample_16 : decode cX8_removeSample 16 = .ok (.invokevirtual 105, 3) := by decide +kernel
theorem dX8_removeSample_19 : decode cX8_removeSample 19 = .ok (.aload_n 0, 1) := by decide +kernel
theorem dX8_removeSample_20 : decode cX8_removeSample 20 = .ok (.getfield 7, 3) := by decide +kernel
theorem dX8_removeSample_23 : decode cX8_removeSample 23 = .ok (.iconst 1, 1) := by decide +kernel
theorem dX8_removeSample_24 : decode cX8_removeSample 24 = .ok (.dup2, 1) := by decide +kernel
theorem dX8_removeSample_25 : decode cX8_removeSample 25 = .ok (.iaload, 1) := by decide +kernel
theorem dX8_removeSample_26 : decode cX8_removeSample 26 = .ok (.iconst 1, 1) := by decide +kernel
theorem dX8_removeSample_27 : decode cX8_removeSample 27 = .ok (.isub, 1) := by decide +kernel
theorem dX8_removeSample_28 : decode cX8_removeSample 28 = .ok (.iastore, 1) := by decide +kernel
theorem dX8_removeSample_29 : decode cX8_removeSample 29 = .ok (.bipush 8, 2) := by decide +kernel
theorem dX8_removeSample_31 : decode cX8_removeSample 31 = .ok (.iload_n 1, 1) := by decide +kernel
theorem dX8_removeSample_32 : decode cX8_removeSample 32 = .ok (.imul, 1) := by decide +kernel
theorem dX8_removeSample_33 : decode cX8_removeSample 33 = .ok (.istore_n 2, 1) := by decide +kernel
theorem dX8_removeSample_34 : decode cX8_removeSample 34 = .ok (.iload_n 2, 1) := by decide +kernel
theorem dX8_removeSample_35 : decode cX8_removeSample 35 = .ok (.bipush 8, 2) := by decide +kernel
theorem dX8_removeSample_37 : decode cX8_removeSample 37 = .ok (.aload_n 0, 1) := by decide +kernel
theorem dX8_removeSample_38 : decode cX8_removeSample 38 = .ok (.getfield 7, 3) := by decide +kernel
theorem dX8_removeSample_41 : decode cX8_removeSample 41 = .ok (.iconst 1, 1) := by decide +kernel
theorem dX8_removeSample_42 : decode cX8_removeSample 42 = .ok (.iaload, 1) := by decide +kernel
theorem dX8_removeSample_43 : decode cX8_removeSample 43 = .ok (.imul, 1) := by decide +kernel
theorem dX8_removeSample_44 : decode cX8_removeSample 44 = .ok (.if_icmp .ge 30, 3) := by decide +kernel
theorem dX8_removeSample_47 : decode cX8_removeSample 47 = .ok (.aload_n 0, 1) := by decide +kernel
theorem dX8_removeSample_48 : decode cX8_removeSample 48 = .ok (.getfield 7, 3) := by decide +kernel
theorem dX8_removeSample_51 : decode cX8_removeSample 51 = .ok (.bipush 35, 2) := by decide +kernel
theorem dX8_removeSample_53 : decode cX8_removeSample 53 = .ok (.iload_n 2, 1) := by decide +kernel
theorem dX8_removeSample_54 : decode cX8_removeSample 54 = .ok (.iadd, 1) := by decide +kernel
theorem dX8_removeSample_55 : decode cX8_removeSample 55 = .ok (.aload_n 0, 1) := by decide +kernel
theorem dX8_removeSample_56 : decode cX8_removeSample 56 = .ok (.getfield 7, 3) := by decide +kernel
theorem dX8_removeSample_59 : decode cX8_removeSample 59 = .ok (.bipush 35, 2) := by decide +kernel
theorem dX8_removeSample_61 : decode cX8_removeSample 61 = .ok (.iload_n 2, 1) := by decide +kernel
theorem dX8_removeSample_62 : decode cX8_removeSample 62 = .ok (.iadd, 1) := by decide +kernel
theorem dX8_removeSample_63 : decode cX8_removeSample 63 = .ok (.bipush 8, 2) := by decide +kernel
theorem dX8_removeSample_65 : decode cX8_removeSample 65 = .ok (.iadd, 1) := by decide +kernel
theorem dX8_removeSample_66 : decode cX8_removeSample 66 = .ok (.iaload, 1) := by decide +kernel
theorem dX8_removeSample_67 : decode cX8_removeSample 67 = .ok (.iastore, 1) := by decide +kernel
theorem dX8_removeSample_68 : decode cX8_removeSample 68 = .ok (.iinc 2 1, 3) := by decide +kernel
theorem dX8_removeSample_71 : decode cX8_removeSample 71 = .ok (.goto (-37), 3) := by decide +kernel
theorem dX8_removeSample_74 : decode cX8_removeSample 74 = .ok (.iconst 0, 1) := by decide +kernel
theorem dX8_removeSample_75 : decode cX8_removeSample 75 = .ok (.istore_n 2, 1) := by decide +kernel
theorem dX8_removeSample_76 : decode cX8_removeSample 76 = .ok (.iload_n 2, 1) := by decide +kernel
theorem dX8_removeSample_77 : decode cX8_removeSample 77 = .ok (.bipush 8, 2) := by decide +kernel
theorem dX8_removeSample_79 : decode cX8_removeSample 79 = .ok (.if_icmp .ge 29, 3) := by decide +kernel
theorem dX8_removeSample_82 : decode cX8_removeSample 82 = .ok (.aload_n 0, 1) := by decide +kernel
theorem dX8_removeSample_83 : decode cX8_removeSample 83 = .ok (.getfield 7, 3) := by decide +kernel
theorem dX8_removeSample_86 : decode cX8_removeSample 86 = .ok (.bipush 35, 2) := by decide +kernel
theorem dX8_removeSample_88 : decode cX8_removeSample 88 = .ok (.bipush 8, 2) := by decide +kernel
theorem dX8_removeSample_90 : decode cX8_removeSample 90 = .ok (.aload_n 0, 1) := by decide +kernel
theorem dX8_removeSample_91 : decode cX8_removeSample 91 = .ok (.getfield 7, 3) := by decide +kernel
theorem dX8_removeSample_94 : decode cX8_removeSample 94 = .ok (.iconst 1, 1) := by decide +kernel
theorem dX8_removeSample_95 : decode cX8_removeSample 95 = .ok (.iaload, 1) := by decide +kernel
theorem dX8_removeSample_96 : decode cX8_removeSample 96 = .ok (.imul, 1) := by decide +kernel
theorem dX8_removeSample_97 : decode cX8_removeSample 97 = .ok (.iadd, 1) := by decide +kernel
theorem dX8_removeSample_98 : decode cX8_removeSample 98 = .ok (.iload_n 2, 1) := by decide +kernel
theorem dX8_removeSample_99 : decode cX8_removeSample 99 = .ok (.iadd, 1) := by decide +kernel
theorem dX8_removeSample_100 : decode cX8_removeSample 100 = .ok (.iconst 0, 1) := by decide +kernel
theorem dX8_removeSample_101 : decode cX8_removeSample 101 = .ok (.iastore, 1) := by decide +kernel
theorem dX8_removeSample_102 : decode cX8_removeSample 102 = .ok (.iinc 2 1, 3) := by decide +kernel
theorem dX8_removeSample_105 : decode cX8_removeSample 105 = .ok (.goto (-29), 3) := by decide +kernel
theorem dX8_removeSample_108 : decode cX8_removeSample 108 = .ok (.aload_n 0, 1) := by decide +kernel
theorem dX8_removeSample_109 : decode cX8_removeSample 109 = .ok (.getfield 7, 3) := by decide +kernel
theorem dX8_removeSample_112 : decode cX8_removeSample 112 = .ok (.iconst 1, 1) := by decide +kernel
theorem dX8_removeSample_113 : decode cX8_removeSample 113 = .ok (.iaload, 1) := by decide +kernel
theorem dX8_removeSample_114 : decode cX8_removeSample 114 = .ok (.ireturn, 1) := by decide +kernel
theorem dX8_counts_0 : decode cX8_counts 0 = .ok (.iconst 0, 1) := by decide +kernel
theorem dX8_counts_1 : decode cX8_counts 1 = .ok (.istore 4, 2) := by decide +kernel
theorem dX8_counts_3 : decode cX8_counts 3 = .ok (.iload 4, 2) := by decide +kernel
theorem dX8_counts_5 : decode cX8_counts 5 = .ok (.aload_n 0, 1) := by decide +kernel
theorem dX8_counts_6 : decode cX8_counts 6 = .ok (.getfield 7, 3) := by decide +kernel
theorem dX8_counts_9 : decode cX8_counts 9 = .ok (.iconst 0, 1) := by decide +kernel
theorem dX8_counts_10 : decode cX8_counts 10 = .ok (.iaload, 1) := by decide +kernel
theorem dX8_counts_11 : decode cX8_counts 11 = .ok (.if_icmp .ge 234, 3) := by decide +kernel
theorem dX8_counts_14 : decode cX8_counts 14 = .ok (.aload_n 0, 1) := by decide +kernel
theorem dX8_counts_15 : decode cX8_counts 15 = .ok (.getfield 38, 3) := by decide +kernel
theorem dX8_counts_18 : decode cX8_counts 18 = .ok (.iload 4, 2) := by decide +kernel
theorem dX8_counts_20 : decode cX8_counts 20 = .ok (.dup2, 1) := by decide +kernel
theorem dX8_counts_21 : decode cX8_counts 21 = .ok (.laload, 1) := by decide +kernel
theorem dX8_counts_22 : decode cX8_counts 22 = .ok (.aload_n 0, 1) := by decide +kernel
theorem dX8_counts_23 : decode cX8_counts 23 = .ok (.iconst 0, 1) := by decide +kernel
theorem dX8_counts_24 : decode cX8_counts 24 = .ok (.iload 4, 2) := by decide +kernel
theorem dX8_counts_26 : decode cX8_counts 26 = .ok (.invokevirtual 87, 3) := by decide +kernel
theorem dX8_counts_29 : decode cX8_counts 29 = .ok (.lload_n 2, 1) := by decide +kernel
theorem dX8_counts_30 : decode cX8_counts 30 = .ok (.invokestatic 143, 3) := by decide +kernel
theorem dX8_counts_33 : decode cX8_counts 33 = .ok (.i2l, 1) := by decide +kernel
theorem dX8_counts_34 : decode cX8_counts 34 = .ok (.ladd, 1) := by decide +kernel
theorem dX8_counts_35 : decode cX8_counts 35 = .ok (.lastore, 1) := by decide +kernel
theorem dX8_counts_36 : decode cX8_counts 36 = .ok (.iconst 0, 1) := by decide +kernel
theorem dX8_counts_37 : decode cX8_counts 37 = .ok (.istore 5, 2) := by decide +kernel
theorem dX8_counts_39 : decode cX8_counts 39 = .ok (.iload 5, 2) := by decide +kernel
theorem dX8_counts_41 : decode cX8_counts 41 = .ok (.aload_n 0, 1) := by decide +kernel
theorem dX8_counts_42 : decode cX8_counts 42 = .ok (.getfield 7, 3) := by decide +kernel
theorem dX8_counts_45 : decode cX8_counts 45 = .ok (.iconst 0, 1) := by decide +kernel
theorem dX8_counts_46 : decode cX8_counts 46 = .ok (.iaload, 1) := by decide +kernel
theorem dX8_counts_47 : decode cX8_counts 47 = .ok (.if_icmp .ge 101, 3) := by decide +kernel
theorem dX8_counts_50 : decode cX8_counts 50 = .ok (.lconst 0, 1) := by decide +kernel
theorem dX8_counts_51 : decode cX8_counts 51 = .ok (.lstore 6, 2) := by decide +kernel
theorem dX8_counts_53 : decode cX8_counts 53 = .ok (.iconst 0, 1) := by decide +kernel
theorem dX8_counts_54 : decode cX8_counts 54 = .ok (.istore 8, 2) := by decide +kernel
theorem dX8_counts_56 : decode cX8_counts 56 = .ok (.iload 8, 2) := by decide +kernel
theorem dX8_counts_58 : decode cX8_counts 58 = .ok (.aload_n 0, 1) := by decide +kernel
theorem dX8_counts_59 : decode cX8_counts 59 = .ok (.iload_n 1, 1) := by decide +kernel
theorem dX8_counts_60 : decode cX8_counts 60 = .ok (.invokevirtual 65, 3) := by decide +kernel
theorem dX8_counts_63 : decode cX8_counts 63 = .ok (.iconst 1, 1) := by decide +kernel
theorem dX8_counts_64 : decode cX8_counts 64 = .ok (.isub, 1) := by decide +kernel
theorem dX8_counts_65 : decode cX8_counts 65 = .ok (.if_icmp .ge 53, 3) := by decide +kernel
theorem dX8_counts_68 : decode cX8_counts 68 = .ok (.lload 6, 2) := by decide +kernel
theorem dX8_counts_70 : decode cX8_counts 70 = .ok (.aload_n 0, 1) := by decide +kernel
theorem dX8_counts_71 : decode cX8_counts 71 = .ok (.getfield 25, 3) := by decide +kernel
theorem dX8_counts_74 : decode cX8_counts 74 = .ok (.iconst 4, 1) := by decide +kernel
theorem dX8_counts_75 : decode cX8_counts 75 = .ok (.iload 8, 2) := by decide +kernel
theorem dX8_counts_77 : decode cX8_counts 77 = .ok (.imul, 1) := by decide +kernel
theorem dX8_counts_78 : decode cX8_counts 78 = .ok (.iload 4, 2) := by decide +kernel
theorem dX8_counts_80 : decode cX8_counts 80 = .ok (.iadd, 1) := by decide +kernel
theorem dX8_counts_81 : decode cX8_counts 81 = .ok (.laload, 1) := by decide +kernel
theorem dX8_counts_82 : decode cX8_counts 82 = .ok (.aload_n 0, 1) := by decide +kernel
theorem dX8_counts_83 : decode cX8_counts 83 = .ok (.iload_n 1, 1) := by decide +kernel
theorem dX8_counts_84 : decode cX8_counts 84 = .ok (.iload 8, 2) := by decide +kernel
theorem dX8_counts_86 : decode cX8_counts 86 = .ok (.iload 4, 2) := by decide +kernel
theorem dX8_counts_88 : decode cX8_counts 88 = .ok (.iload 5, 2) := by decide +kernel
theorem dX8_counts_90 : decode cX8_counts 90 = .ok (.invokevirtual 83, 3) := by decide +kernel
theorem dX8_counts_93 : decode cX8_counts 93 = .ok (.lmul, 1) := by decide +kernel
theorem dX8_counts_94 : decode cX8_counts 94 = .ok (.aload_n 0, 1) := by decide +kernel
theorem dX8_counts_95 : decode cX8_counts 95 = .ok (.getfield 29, 3) := by decide +kernel
theorem dX8_counts_98 : decode cX8_counts 98 = .ok (.iconst 4, 1) := by decide +kernel
theorem dX8_counts_99 : decode cX8_counts 99 = .ok (.iload 8, 2) := by decide +kernel
theorem dX8_counts_101 : decode cX8_counts 101 = .ok (.imul, 1) := by decide +kernel
theorem dX8_counts_102 : decode cX8_counts 102 = .ok (.iconst 4, 1) := by decide +kernel
theorem dX8_counts_103 : decode cX8_counts 103 = .ok (.iadd, 1) := by decide +kernel
theorem dX8_counts_104 : decode cX8_counts 104 = .ok (.iload 5, 2) := by decide +kernel
theorem dX8_counts_106 : decode cX8_counts 106 = .ok (.iadd, 1) := by decide +kernel
theorem dX8_counts_107 : decode cX8_counts 107 = .ok (.laload, 1) := by decide +kernel
theorem dX8_counts_108 : decode cX8_counts 108 = .ok (.lmul, 1) := by decide +kernel
theorem dX8_counts_109 : decode cX8_counts 109 = .ok (.ladd, 1) := by decide +kernel
theorem dX8_counts_110 : decode cX8_counts 110 = .ok (.lstore 6, 2) := by decide +kernel
theorem dX8_counts_112 : decode cX8_counts 112 = .ok (.iinc 8 1, 3) := by decide +kernel
theorem dX8_counts_115 : decode cX8_counts 115 = .ok (.goto (-59), 3) := by decide +kernel
theorem dX8_counts_118 : decode cX8_counts 118 = .ok (.aload_n 0, 1) := by decide +kernel
theorem dX8_counts_119 : decode cX8_counts 119 = .ok (.getfield 38, 3) := by decide +kernel
theorem dX8_counts_122 : decode cX8_counts 122 = .ok (.iconst 4, 1) := by decide +kernel
theorem dX8_counts_123 : decode cX8_counts 123 = .ok (.iconst 4, 1) := by decide +kernel
theorem dX8_counts_124 : decode cX8_counts 124 = .ok (.iload 4, 2) := by decide +kernel
theorem dX8_counts_126 : decode cX8_counts 126 = .ok (.imul, 1) := by decide +kernel
theorem dX8_counts_127 : decode cX8_counts 127 = .ok (.iadd, 1) := by decide +kernel
theorem dX8_counts_128 : decode cX8_counts 128 = .ok (.iload 5, 2) := by decide +kernel
theorem dX8_counts_130 : decode cX8_counts 130 = .ok (.iadd, 1) := by decide +kernel
theorem dX8_counts_131 : decode cX8_counts 131 = .ok (.dup2, 1) := by decide +kernel
theorem dX8_counts_132 : decode cX8_counts 132 = .ok (.laload, 1) := by decide +kernel
theorem dX8_counts_133 : decode cX8_counts 133 = .ok (.lload 6, 2) := by decide +kernel
theorem dX8_counts_135 : decode cX8_counts 135 = .ok (.lload_n 2, 1) := by decide +kernel
theorem dX8_counts_136 : decode cX8_counts 136 = .ok (.invokestatic 143, 3) := by decide +kernel
theorem dX8_counts_139 : decode cX8_counts 139 = .ok (.i2l, 1) := by decide +kernel
theorem dX8_counts_140 : decode cX8_counts 140 = .ok (.ladd, 1) := by decide +kernel
theorem dX8_counts_141 : decode cX8_counts 141 = .ok (.lastore, 1) := by decide +kernel
theorem dX8_counts_142 : decode cX8_counts 142 = .ok (.iinc 5 1, 3) := by decide +kernel
theorem dX8_counts_145 : decode cX8_counts 145 = .ok (.goto (-106), 3) := by decide +kernel
theorem dX8_counts_148 : decode cX8_counts 148 = .ok (.iconst 0, 1) := by decide +kernel
theorem dX8_counts_149 : decode cX8_counts 149 = .ok (.istore 5, 2) := by decide +kernel
theorem dX8_counts_151 : decode cX8_counts 151 = .ok (.iload 5, 2) := by decide +kernel
theorem dX8_counts_153 : decode cX8_counts 153 = .ok (.iconst 3, 1) := by decide +kernel
theorem dX8_counts_154 : decode cX8_counts 154 = .ok (.if_icmp .ge 85, 3) := by decide +kernel
theorem dX8_counts_157 : decode cX8_counts 157 = .ok (.lconst 0, 1) := by decide +kernel
theorem dX8_counts_158 : decode cX8_counts 158 = .ok (.lstore 6, 2) := by decide +kernel
theorem dX8_counts_160 : decode cX8_counts 160 = .ok (.iconst 0, 1) := by decide +kernel
theorem dX8_counts_161 : decode cX8_counts 161 = .ok (.istore 8, 2) := by decide +kernel
theorem dX8_counts_163 : decode cX8_counts 163 = .ok (.iload 8, 2) := by decide +kernel
theorem dX8_counts_165 : decode cX8_counts 165 = .ok (.aload_n 0, 1) := by decide +kernel
theorem dX8_counts_166 : decode cX8_counts 166 = .ok (.iload_n 1, 1) := by decide +kernel
theorem dX8_counts_167 : decode cX8_counts 167 = .ok (.invokevirtual 65, 3) := by decide +kernel
theorem dX8_counts_170 : decode cX8_counts 170 = .ok (.if_icmp .ge 38, 3) := by decide +kernel
theorem dX8_counts_173 : decode cX8_counts 173 = .ok (.lload 6, 2) := by decide +kernel
theorem dX8_counts_175 : decode cX8_counts 175 = .ok (.aload_n 0, 1) := by decide +kernel
theorem dX8_counts_176 : decode cX8_counts 176 = .ok (.iload_n 1, 1) := by decide +kernel
theorem dX8_counts_177 : decode cX8_counts 177 = .ok (.iload 8, 2) := by decide +kernel
theorem dX8_counts_179 : decode cX8_counts 179 = .ok (.invokevirtual 69, 3) := by decide +kernel
theorem dX8_counts_182 : decode cX8_counts 182 = .ok (.iload 5, 2) := by decide +kernel
theorem dX8_counts_184 : decode cX8_counts 184 = .ok (.if_icmp .ne 14, 3) := by decide +kernel
theorem dX8_counts_187 : decode cX8_counts 187 = .ok (.aload_n 0, 1) := by decide +kernel
theorem dX8_counts_188 : decode cX8_counts 188 = .ok (.iload 8, 2) := by decide +kernel
theorem dX8_counts_190 : decode cX8_counts 190 = .ok (.iload 4, 2) := by decide +kernel
theorem dX8_counts_192 : decode cX8_counts 192 = .ok (.invokevirtual 87, 3) := by decide +kernel
theorem dX8_counts_195 : decode cX8_counts 195 = .ok (.goto 4, 3) := by decide +kernel
theorem dX8_counts_198 : decode cX8_counts 198 = .ok (.lconst 0, 1) := by decide +kernel
theorem dX8_counts_199 : decode cX8_counts 199 = .ok (.ladd, 1) := by decide +kernel
theorem dX8_counts_200 : decode cX8_counts 200 = .ok (.lstore 6, 2) := by decide +kernel
theorem dX8_counts_202 : decode cX8_counts 202 = .ok (.iinc 8 1, 3) := by decide +kernel
theorem dX8_counts_205 : decode cX8_counts 205 = .ok (.goto (-42), 3) := by decide +kernel
theorem dX8_counts_208 : decode cX8_counts 208 = .ok (.aload_n 0, 1) := by decide +kernel
theorem dX8_counts_209 : decode cX8_counts 209 = .ok (.getfield 38, 3) := by decide +kernel
theorem dX8_counts_212 : decode cX8_counts 212 = .ok (.bipush 20, 2) := by decide +kernel
theorem dX8_counts_214 : decode cX8_counts 214 = .ok (.iconst 3, 1) := by decide +kernel
theorem dX8_counts_215 : decode cX8_counts 215 = .ok (.iload 4, 2) := by decide +kernel
theorem dX8_counts_217 : decode cX8_counts 217 = .ok (.imul, 1) := by decide +kernel
theorem dX8_counts_218 : decode cX8_counts 218 = .ok (.iadd, 1) := by decide +kernel
theorem dX8_counts_219 : decode cX8_counts 219 = .ok (.iload 5, 2) := by decide +kernel
theorem dX8_counts_221 : decode cX8_counts 221 = .ok (.iadd, 1) := by decide +kernel
theorem dX8_counts_222 : decode cX8_counts 222 = .ok (.dup2, 1) := by decide +kernel
theorem dX8_counts_223 : decode cX8_counts 223 = .ok (.laload, 1) := by decide +kernel
theorem dX8_counts_224 : decode cX8_counts 224 = .ok (.lload 6, 2) := by decide +kernel
theorem dX8_counts_226 : decode cX8_counts 226 = .ok (.lload_n 2, 1) := by decide +kernel
theorem dX8_counts_227 : decode cX8_counts 227 = .ok (.invokestatic 143, 3) := by decide +kernel
theorem dX8_counts_230 : decode cX8_counts 230 = .ok (.i2l, 1) := by decide +kernel
theorem dX8_counts_231 : decode cX8_counts 231 = .ok (.ladd, 1) := by decide +kernel
theorem dX8_counts_232 : decode cX8_counts 232 = .ok (.lastore, 1) := by decide +kernel
theorem dX8_counts_233 : decode cX8_counts 233 = .ok (.iinc 5 1, 3) := by decide +kernel
theorem dX8_counts_236 : decode cX8_counts 236 = .ok (.goto (-85), 3) := by decide +kernel
theorem dX8_counts_239 : decode cX8_counts 239 = .ok (.iinc 4 1, 3) := by decide +kernel
theorem dX8_counts_242 : decode cX8_counts 242 = .ok (.goto (-239), 3) := by decide +kernel
theorem dX8_counts_245 : decode cX8_counts 245 = .ok (.return_, 1) := by decide +kernel
end
section
theorem dX8_learnsFamily_0 : decode cX8_learnsFamily 0 = .ok (.lconst 0, 1) := by decide +kernel
theorem dX8_learnsFamily_1 : decode cX8_learnsFamily 1 = .ok (.lstore_n 3, 1) := by decide +kernel
theorem dX8_learnsFamily_2 : decode cX8_learnsFamily 2 = .ok (.iconst 0, 1) := by decide +kernel
theorem dX8_learnsFamily_3 : decode cX8_learnsFamily 3 = .ok (.istore 5, 2) := by decide +kernel
theorem dX8_learnsFamily_5 : decode cX8_learnsFamily 5 = .ok (.iload 5, 2) := by decide +kernel
theorem dX8_learnsFamily_7 : decode cX8_learnsFamily 7 = .ok (.iload_n 2, 1) := by decide +kernel
theorem dX8_learnsFamily_8 : decode cX8_learnsFamily 8 = .ok (.if_icmp .ge 41, 3) := by decide +kernel
theorem dX8_learnsFamily_11 : decode cX8_learnsFamily 11 = .ok (.aload_n 0, 1) := by decide +kernel
theorem dX8_learnsFamily_12 : decode cX8_learnsFamily 12 = .ok (.getfield 38, 3) := by decide +kernel
theorem dX8_learnsFamily_15 : decode cX8_learnsFamily 15 = .ok (.iload_n 1, 1) := by decide +kernel
theorem dX8_learnsFamily_16 : decode cX8_learnsFamily 16 = .ok (.iconst 3, 1) := by decide +kernel
theorem dX8_learnsFamily_17 : decode cX8_learnsFamily 17 = .ok (.isub, 1) := by decide +kernel
theorem dX8_learnsFamily_18 : decode cX8_learnsFamily 18 = .ok (.iload 5, 2) := by decide +kernel
theorem dX8_learnsFamily_20 : decode cX8_learnsFamily 20 = .ok (.iadd, 1) := by decide +kernel
theorem dX8_learnsFamily_21 : decode cX8_learnsFamily 21 = .ok (.laload, 1) := by decide +kernel
theorem dX8_learnsFamily_22 : decode cX8_learnsFamily 22 = .ok (.lload_n 3, 1) := by decide +kernel
theorem dX8_learnsFamily_23 : decode cX8_learnsFamily 23 = .ok (.lcmp, 1) := by decide +kernel
theorem dX8_learnsFamily_24 : decode cX8_learnsFamily 24 = .ok (.ifCond .le 17, 3) := by decide +kernel
theorem dX8_learnsFamily_27 : decode cX8_learnsFamily 27 = .ok (.aload_n 0, 1) := by decide +kernel
theorem dX8_learnsFamily_28 : decode cX8_learnsFamily 28 = .ok (.getfield 38, 3) := by decide +kernel
theorem dX8_learnsFamily_31 : decode cX8_learnsFamily 31 = .ok (.iload_n 1, 1) := by decide +kernel
theorem dX8_learnsFamily_32 : decode cX8_learnsFamily 32 = .ok (.iconst 3, 1) := by decide +kernel
theorem dX8_learnsFamily_33 : decode cX8_learnsFamily 33 = .ok (.isub, 1) := by decide +kernel
theorem dX8_learnsFamily_34 : decode cX8_learnsFamily 34 = .ok (.iload 5, 2) := by decide +kernel
theorem dX8_learnsFamily_36 : decode cX8_learnsFamily 36 = .ok (.iadd, 1) := by decide +kernel
theorem dX8_learnsFamily_37 : decode cX8_learnsFamily 37 = .ok (.laload, 1) := by decide +kernel
theorem dX8_learnsFamily_38 : decode cX8_learnsFamily 38 = .ok (.goto 4, 3) := by decide +kernel
theorem dX8_learnsFamily_41 : decode cX8_learnsFamily 41 = .ok (.lload_n 3, 1) := by decide +kernel
theorem dX8_learnsFamily_42 : decode cX8_learnsFamily 42 = .ok (.lstore_n 3, 1) := by decide +kernel
theorem dX8_learnsFamily_43 : decode cX8_learnsFamily 43 = .ok (.iinc 5 1, 3) := by decide +kernel
theorem dX8_learnsFamily_46 : decode cX8_learnsFamily 46 = .ok (.goto (-41), 3) := by decide +kernel
theorem dX8_learnsFamily_49 : decode cX8_learnsFamily 49 = .ok (.iconst 0, 1) := by decide +kernel
theorem dX8_learnsFamily_50 : decode cX8_learnsFamily 50 = .ok (.istore 5, 2) := by decide +kernel
theorem dX8_learnsFamily_52 : decode cX8_learnsFamily 52 = .ok (.iconst 0, 1) := by decide +kernel
theorem dX8_learnsFamily_53 : decode cX8_learnsFamily 53 = .ok (.istore 6, 2) := by decide +kernel
theorem dX8_learnsFamily_55 : decode cX8_learnsFamily 55 = .ok (.iload 6, 2) := by decide +kernel
theorem dX8_learnsFamily_57 : decode cX8_learnsFamily 57 = .ok (.iload_n 2, 1) := by decide +kernel
theorem dX8_learnsFamily_58 : decode cX8_learnsFamily 58 = .ok (.if_icmp .ge 78, 3) := by decide +kernel
theorem dX8_learnsFamily_61 : decode cX8_learnsFamily 61 = .ok (.lload_n 3, 1) := by decide +kernel
theorem dX8_learnsFamily_62 : decode cX8_learnsFamily 62 = .ok (.lconst 0, 1) := by decide +kernel
theorem dX8_learnsFamily_63 : decode cX8_learnsFamily 63 = .ok (.lcmp, 1) := by decide +kernel
theorem dX8_learnsFamily_64 : decode cX8_learnsFamily 64 = .ok (.ifCond .le 72, 3) := by decide +kernel
theorem dX8_learnsFamily_67 : decode cX8_learnsFamily 67 = .ok (.ldc2_w 147, 3) := by decide +kernel
theorem dX8_learnsFamily_70 : decode cX8_learnsFamily 70 = .ok (.aload_n 0, 1) := by decide +kernel
theorem dX8_learnsFamily_71 : decode cX8_learnsFamily 71 = .ok (.getfield 38, 3) := by decide +kernel
theorem dX8_learnsFamily_74 : decode cX8_learnsFamily 74 = .ok (.iload_n 1, 1) := by decide +kernel
theorem dX8_learnsFamily_75 : decode cX8_learnsFamily 75 = .ok (.iconst 3, 1) := by decide +kernel
theorem dX8_learnsFamily_76 : decode cX8_learnsFamily 76 = .ok (.isub, 1) := by decide +kernel
theorem dX8_learnsFamily_77 : decode cX8_learnsFamily 77 = .ok (.iload 6, 2) := by decide +kernel
theorem dX8_learnsFamily_79 : decode cX8_learnsFamily 79 = .ok (.iadd, 1) := by decide +kernel
theorem dX8_learnsFamily_80 : decode cX8_learnsFamily 80 = .ok (.laload, 1) := by decide +kernel
theorem dX8_learnsFamily_81 : decode cX8_learnsFamily 81 = .ok (.lmul, 1) := by decide +kernel
theorem dX8_learnsFamily_82 : decode cX8_learnsFamily 82 = .ok (.lload_n 3, 1) := by decide +kernel
theorem dX8_learnsFamily_83 : decode cX8_learnsFamily 83 = .ok (.ldc2_w 149, 3) := by decide +kernel
theorem dX8_learnsFamily_86 : decode cX8_learnsFamily 86 = .ok (.ldiv, 1) := by decide +kernel
theorem dX8_learnsFamily_87 : decode cX8_learnsFamily 87 = .ok (.ladd, 1) := by decide +kernel
theorem dX8_learnsFamily_88 : decode cX8_learnsFamily 88 = .ok (.lload_n 3, 1) := by decide +kernel
theorem dX8_learnsFamily_89 : decode cX8_learnsFamily 89 = .ok (.ldiv, 1) := by decide +kernel
theorem dX8_learnsFamily_90 : decode cX8_learnsFamily 90 = .ok (.l2i, 1) := by decide +kernel
theorem dX8_learnsFamily_91 : decode cX8_learnsFamily 91 = .ok (.istore 7, 2) := by decide +kernel
theorem dX8_learnsFamily_93 : decode cX8_learnsFamily 93 = .ok (.iload 5, 2) := by decide +kernel
theorem dX8_learnsFamily_95 : decode cX8_learnsFamily 95 = .ok (.ifCond .ne 17, 3) := by decide +kernel
theorem dX8_learnsFamily_98 : decode cX8_learnsFamily 98 = .ok (.iload 7, 2) := by decide +kernel
theorem dX8_learnsFamily_100 : decode cX8_learnsFamily 100 = .ok (.aload_n 0, 1) := by decide +kernel
theorem dX8_learnsFamily_101 : decode cX8_learnsFamily 101 = .ok (.getfield 7, 3) := by decide +kernel
theorem dX8_learnsFamily_104 : decode cX8_learnsFamily 104 = .ok (.iload_n 1, 1) := by decide +kernel
theorem dX8_learnsFamily_105 : decode cX8_learnsFamily 105 = .ok (.iload 6, 2) := by decide +kernel
theorem dX8_learnsFamily_107 : decode cX8_learnsFamily 107 = .ok (.iadd, 1) := by decide +kernel
theorem dX8_learnsFamily_108 : decode cX8_learnsFamily 108 = .ok (.iaload, 1) := by decide +kernel
theorem dX8_learnsFamily_109 : decode cX8_learnsFamily 109 = .ok (.if_icmp .eq 7, 3) := by decide +kernel
theorem dX8_learnsFamily_112 : decode cX8_learnsFamily 112 = .ok (.iconst 1, 1) := by decide +kernel
theorem dX8_learnsFamily_113 : decode cX8_learnsFamily 113 = .ok (.goto 4, 3) := by decide +kernel
theorem dX8_learnsFamily_116 : decode cX8_learnsFamily 116 = .ok (.iconst 0, 1) := by decide +kernel
theorem dX8_learnsFamily_117 : decode cX8_learnsFamily 117 = .ok (.istore 5, 2) := by decide +kernel
theorem dX8_learnsFamily_119 : decode cX8_learnsFamily 119 = .ok (.aload_n 0, 1) := by decide +kernel
theorem dX8_learnsFamily_120 : decode cX8_learnsFamily 120 = .ok (.getfield 7, 3) := by decide +kernel
theorem dX8_learnsFamily_123 : decode cX8_learnsFamily 123 = .ok (.iload_n 1, 1) := by decide +kernel
theorem dX8_learnsFamily_124 : decode cX8_learnsFamily 124 = .ok (.iload 6, 2) := by decide +kernel
theorem dX8_learnsFamily_126 : decode cX8_learnsFamily 126 = .ok (.iadd, 1) := by decide +kernel
theorem dX8_learnsFamily_127 : decode cX8_learnsFamily 127 = .ok (.iload 7, 2) := by decide +kernel
theorem dX8_learnsFamily_129 : decode cX8_learnsFamily 129 = .ok (.iastore, 1) := by decide +kernel
theorem dX8_learnsFamily_130 : decode cX8_learnsFamily 130 = .ok (.iinc 6 1, 3) := by decide +kernel
theorem dX8_learnsFamily_133 : decode cX8_learnsFamily 133 = .ok (.goto (-78), 3) := by decide +kernel
theorem dX8_learnsFamily_136 : decode cX8_learnsFamily 136 = .ok (.iload 5, 2) := by decide +kernel
theorem dX8_learnsFamily_138 : decode cX8_learnsFamily 138 = .ok (.ireturn, 1) := by decide +kernel
theorem dX8_learnsOnce_0 : decode cX8_learnsOnce 0 = .ok (.iconst 0, 1) := by decide +kernel
theorem dX8_learnsOnce_1 : decode cX8_learnsOnce 1 = .ok (.istore_n 1, 1) := by decide +kernel
theorem dX8_learnsOnce_2 : decode cX8_learnsOnce 2 = .ok (.iload_n 1, 1) := by decide +kernel
theorem dX8_learnsOnce_3 : decode cX8_learnsOnce 3 = .ok (.bipush 32, 2) := by decide +kernel
theorem dX8_learnsOnce_5 : decode cX8_learnsOnce 5 = .ok (.if_icmp .ge 16, 3) := by decide +kernel
theorem dX8_learnsOnce_8 : decode cX8_learnsOnce 8 = .ok (.aload_n 0, 1) := by decide +kernel
theorem dX8_learnsOnce_9 : decode cX8_learnsOnce 9 = .ok (.getfield 38, 3) := by decide +kernel
theorem dX8_learnsOnce_12 : decode cX8_learnsOnce 12 = .ok (.iload_n 1, 1) := by decide +kernel
theorem dX8_learnsOnce_13 : decode cX8_learnsOnce 13 = .ok (.lconst 0, 1) := by decide +kernel
theorem dX8_learnsOnce_14 : decode cX8_learnsOnce 14 = .ok (.lastore, 1) := by decide +kernel
theorem dX8_learnsOnce_15 : decode cX8_learnsOnce 15 = .ok (.iinc 1 1, 3) := by decide +kernel
theorem dX8_learnsOnce_18 : decode cX8_learnsOnce 18 = .ok (.goto (-16), 3) := by decide +kernel
theorem dX8_learnsOnce_21 : decode cX8_learnsOnce 21 = .ok (.iconst 0, 1) := by decide +kernel
theorem dX8_learnsOnce_22 : decode cX8_learnsOnce 22 = .ok (.istore_n 1, 1) := by decide +kernel
theorem dX8_learnsOnce_23 : decode cX8_learnsOnce 23 = .ok (.iload_n 1, 1) := by decide +kernel
theorem dX8_learnsOnce_24 : decode cX8_learnsOnce 24 = .ok (.aload_n 0, 1) := by decide +kernel
theorem dX8_learnsOnce_25 : decode cX8_learnsOnce 25 = .ok (.getfield 7, 3) := by decide +kernel
theorem dX8_learnsOnce_28 : decode cX8_learnsOnce 28 = .ok (.iconst 1, 1) := by decide +kernel
theorem dX8_learnsOnce_29 : decode cX8_learnsOnce 29 = .ok (.iaload, 1) := by decide +kernel
theorem dX8_learnsOnce_30 : decode cX8_learnsOnce 30 = .ok (.if_icmp .ge 31, 3) := by decide +kernel
theorem dX8_learnsOnce_33 : decode cX8_learnsOnce 33 = .ok (.aload_n 0, 1) := by decide +kernel
theorem dX8_learnsOnce_34 : decode cX8_learnsOnce 34 = .ok (.iload_n 1, 1) := by decide +kernel
theorem dX8_learnsOnce_35 : decode cX8_learnsOnce 35 = .ok (.invokevirtual 151, 3) := by decide +kernel
theorem dX8_learnsOnce_38 : decode cX8_learnsOnce 38 = .ok (.aload_n 0, 1) := by decide +kernel
theorem dX8_learnsOnce_39 : decode cX8_learnsOnce 39 = .ok (.invokevirtual 154, 3) := by decide +kernel
theorem dX8_learnsOnce_42 : decode cX8_learnsOnce 42 = .ok (.lstore_n 2, 1) := by decide +kernel
theorem dX8_learnsOnce_43 : decode cX8_learnsOnce 43 = .ok (.lload_n 2, 1) := by decide +kernel
theorem dX8_learnsOnce_44 : decode cX8_learnsOnce 44 = .ok (.lconst 0, 1) := by decide +kernel
theorem dX8_learnsOnce_45 : decode cX8_learnsOnce 45 = .ok (.lcmp, 1) := by decide +kernel
theorem dX8_learnsOnce_46 : decode cX8_learnsOnce 46 = .ok (.ifCond .le 9, 3) := by decide +kernel
theorem dX8_learnsOnce_49 : decode cX8_learnsOnce 49 = .ok (.aload_n 0, 1) := by decide +kernel
theorem dX8_learnsOnce_50 : decode cX8_learnsOnce 50 = .ok (.iload_n 1, 1) := by decide +kernel
theorem dX8_learnsOnce_51 : decode cX8_learnsOnce 51 = .ok (.lload_n 2, 1) := by decide +kernel
theorem dX8_learnsOnce_52 : decode cX8_learnsOnce 52 = .ok (.invokevirtual 157, 3) := by decide +kernel
theorem dX8_learnsOnce_55 : decode cX8_learnsOnce 55 = .ok (.iinc 1 1, 3) := by decide +kernel
theorem dX8_learnsOnce_58 : decode cX8_learnsOnce 58 = .ok (.goto (-35), 3) := by decide +kernel
theorem dX8_learnsOnce_61 : decode cX8_learnsOnce 61 = .ok (.aload_n 0, 1) := by decide +kernel
theorem dX8_learnsOnce_62 : decode cX8_learnsOnce 62 = .ok (.iconst 3, 1) := by decide +kernel
theorem dX8_learnsOnce_63 : decode cX8_learnsOnce 63 = .ok (.aload_n 0, 1) := by decide +kernel
theorem dX8_learnsOnce_64 : decode cX8_learnsOnce 64 = .ok (.getfield 7, 3) := by decide +kernel
theorem dX8_learnsOnce_67 : decode cX8_learnsOnce 67 = .ok (.iconst 0, 1) := by decide +kernel
theorem dX8_learnsOnce_68 : decode cX8_learnsOnce 68 = .ok (.iaload, 1) := by decide +kernel
theorem dX8_learnsOnce_69 : decode cX8_learnsOnce 69 = .ok (.invokevirtual 160, 3) := by decide +kernel
theorem dX8_learnsOnce_72 : decode cX8_learnsOnce 72 = .ok (.istore_n 1, 1) := by decide +kernel
theorem dX8_learnsOnce_73 : decode cX8_learnsOnce 73 = .ok (.iconst 0, 1) := by decide +kernel
theorem dX8_learnsOnce_74 : decode cX8_learnsOnce 74 = .ok (.istore_n 2, 1) := by decide +kernel
theorem dX8_learnsOnce_75 : decode cX8_learnsOnce 75 = .ok (.iload_n 2, 1) := by decide +kernel
theorem dX8_learnsOnce_76 : decode cX8_learnsOnce 76 = .ok (.aload_n 0, 1) := by decide +kernel
theorem dX8_learnsOnce_77 : decode cX8_learnsOnce 77 = .ok (.getfield 7, 3) := by decide +kernel
theorem dX8_learnsOnce_80 : decode cX8_learnsOnce 80 = .ok (.iconst 0, 1) := by decide +kernel
theorem dX8_learnsOnce_81 : decode cX8_learnsOnce 81 = .ok (.iaload, 1) := by decide +kernel
theorem dX8_learnsOnce_82 : decode cX8_learnsOnce 82 = .ok (.if_icmp .ge 62, 3) := by decide +kernel
theorem dX8_learnsOnce_85 : decode cX8_learnsOnce 85 = .ok (.aload_n 0, 1) := by decide +kernel
theorem dX8_learnsOnce_86 : decode cX8_learnsOnce 86 = .ok (.bipush 7, 2) := by decide +kernel
theorem dX8_learnsOnce_88 : decode cX8_learnsOnce 88 = .ok (.iconst 4, 1) := by decide +kernel
theorem dX8_learnsOnce_89 : decode cX8_learnsOnce 89 = .ok (.iload_n 2, 1) := by decide +kernel
theorem dX8_learnsOnce_90 : decode cX8_learnsOnce 90 = .ok (.imul, 1) := by decide +kernel
theorem dX8_learnsOnce_91 : decode cX8_learnsOnce 91 = .ok (.iadd, 1) := by decide +kernel
theorem dX8_learnsOnce_92 : decode cX8_learnsOnce 92 = .ok (.aload_n 0, 1) := by decide +kernel
theorem dX8_learnsOnce_93 : decode cX8_learnsOnce 93 = .ok (.getfield 7, 3) := by decide +kernel
theorem dX8_learnsOnce_96 : decode cX8_learnsOnce 96 = .ok (.iconst 0, 1) := by decide +kernel
theorem dX8_learnsOnce_97 : decode cX8_learnsOnce 97 = .ok (.iaload, 1) := by decide +kernel
theorem dX8_learnsOnce_98 : decode cX8_learnsOnce 98 = .ok (.invokevirtual 160, 3) := by decide +kernel
theorem dX8_learnsOnce_101 : decode cX8_learnsOnce 101 = .ok (.ifCond .ne 7, 3) := by decide +kernel
theorem dX8_learnsOnce_104 : decode cX8_learnsOnce 104 = .ok (.iload_n 1, 1) := by decide +kernel
theorem dX8_learnsOnce_105 : decode cX8_learnsOnce 105 = .ok (.ifCond .eq 7, 3) := by decide +kernel
theorem dX8_learnsOnce_108 : decode cX8_learnsOnce 108 = .ok (.iconst 1, 1) := by decide +kernel
theorem dX8_learnsOnce_109 : decode cX8_learnsOnce 109 = .ok (.goto 4, 3) := by decide +kernel
theorem dX8_learnsOnce_112 : decode cX8_learnsOnce 112 = .ok (.iconst 0, 1) := by decide +kernel
theorem dX8_learnsOnce_113 : decode cX8_learnsOnce 113 = .ok (.istore_n 1, 1) := by decide +kernel
theorem dX8_learnsOnce_114 : decode cX8_learnsOnce 114 = .ok (.aload_n 0, 1) := by decide +kernel
theorem dX8_learnsOnce_115 : decode cX8_learnsOnce 115 = .ok (.bipush 23, 2) := by decide +kernel
theorem dX8_learnsOnce_117 : decode cX8_learnsOnce 117 = .ok (.iconst 3, 1) := by decide +kernel
theorem dX8_learnsOnce_118 : decode cX8_learnsOnce 118 = .ok (.iload_n 2, 1) := by decide +kernel
theorem dX8_learnsOnce_119 : decode cX8_learnsOnce 119 = .ok (.imul, 1) := by decide +kernel
theorem dX8_learnsOnce_120 : decode cX8_learnsOnce 120 = .ok (.iadd, 1) := by decide +kernel
theorem dX8_learnsOnce_121 : decode cX8_learnsOnce 121 = .ok (.iconst 3, 1) := by decide +kernel
theorem dX8_learnsOnce_122 : decode cX8_learnsOnce 122 = .ok (.invokevirtual 160, 3) := by decide +kernel
theorem dX8_learnsOnce_125 : decode cX8_learnsOnce 125 = .ok (.ifCond .ne 7, 3) := by decide +kernel
theorem dX8_learnsOnce_128 : decode cX8_learnsOnce 128 = .ok (.iload_n 1, 1) := by decide +kernel
theorem dX8_learnsOnce_129 : decode cX8_learnsOnce 129 = .ok (.ifCond .eq 7, 3) := by decide +kernel
theorem dX8_learnsOnce_132 : decode cX8_learnsOnce 132 = .ok (.iconst 1, 1) := by decide +kernel
theorem dX8_learnsOnce_133 : decode cX8_learnsOnce 133 = .ok (.goto 4, 3) := by decide +kernel
theorem dX8_learnsOnce_136 : decode cX8_learnsOnce 136 = .ok (.iconst 0, 1) := by decide +kernel
theorem dX8_learnsOnce_137 : decode cX8_learnsOnce 137 = .ok (.istore_n 1, 1) := by decide +kernel
theorem dX8_learnsOnce_138 : decode cX8_learnsOnce 138 = .ok (.iinc 2 1, 3) := by decide +kernel
theorem dX8_learnsOnce_141 : decode cX8_learnsOnce 141 = .ok (.goto (-66), 3) := by decide +kernel
theorem dX8_learnsOnce_144 : decode cX8_learnsOnce 144 = .ok (.iload_n 1, 1) := by decide +kernel
theorem dX8_learnsOnce_145 : decode cX8_learnsOnce 145 = .ok (.ireturn, 1) := by decide +kernel
theorem dX8_learn_0 : decode cX8_learn 0 = .ok (.aload_n 0, 1) := by decide +kernel
theorem dX8_learn_1 : decode cX8_learn 1 = .ok (.iconst 0, 1) := by decide +kernel
theorem dX8_learn_2 : decode cX8_learn 2 = .ok (.putfield 50, 3) := by decide +kernel
theorem dX8_learn_5 : decode cX8_learn 5 = .ok (.iload_n 1, 1) := by decide +kernel
theorem dX8_learn_6 : decode cX8_learn 6 = .ok (.iconst 1, 1) := by decide +kernel
theorem dX8_learn_7 : decode cX8_learn 7 = .ok (.bipush 20, 2) := by decide +kernel
theorem dX8_learn_9 : decode cX8_learn 9 = .ok (.invokestatic 58, 3) := by decide +kernel
theorem dX8_learn_12 : decode cX8_learn 12 = .ok (.ifCond .ne 6, 3) := by decide +kernel
theorem dX8_learn_15 : decode cX8_learn 15 = .ok (.bipush (-2), 2) := by decide +kernel
theorem dX8_learn_17 : decode cX8_learn 17 = .ok (.ireturn, 1) := by decide +kernel
theorem dX8_learn_18 : decode cX8_learn 18 = .ok (.iconst 0, 1) := by decide +kernel
theorem dX8_learn_19 : decode cX8_learn 19 = .ok (.istore_n 2, 1) := by decide +kernel
theorem dX8_learn_20 : decode cX8_learn 20 = .ok (.iload_n 2, 1) := by decide +kernel
theorem dX8_learn_21 : decode cX8_learn 21 = .ok (.bipush 83, 2) := by decide +kernel
theorem dX8_learn_23 : decode cX8_learn 23 = .ok (.if_icmp .ge 21, 3) := by decide +kernel
theorem dX8_learn_26 : decode cX8_learn 26 = .ok (.aload_n 0, 1) := by decide +kernel
theorem dX8_learn_27 : decode cX8_learn 27 = .ok (.getfield 13, 3) := by decide +kernel
theorem dX8_learn_30 : decode cX8_learn 30 = .ok (.iload_n 2, 1) := by decide +kernel
theorem dX8_learn_31 : decode cX8_learn 31 = .ok (.aload_n 0, 1) := by decide +kernel
theorem dX8_learn_32 : decode cX8_learn 32 = .ok (.getfield 7, 3) := by decide +kernel
theorem dX8_learn_35 : decode cX8_learn 35 = .ok (.iload_n 2, 1) := by decide +kernel
theorem dX8_learn_36 : decode cX8_learn 36 = .ok (.iaload, 1) := by decide +kernel
theorem dX8_learn_37 : decode cX8_learn 37 = .ok (.iastore, 1) := by decide +kernel
theorem dX8_learn_38 : decode cX8_learn 38 = .ok (.iinc 2 1, 3) := by decide +kernel
theorem dX8_learn_41 : decode cX8_learn 41 = .ok (.goto (-21), 3) := by decide +kernel
theorem dX8_learn_44 : decode cX8_learn 44 = .ok (.iconst 0, 1) := by decide +kernel
theorem dX8_learn_45 : decode cX8_learn 45 = .ok (.istore_n 2, 1) := by decide +kernel
theorem dX8_learn_46 : decode cX8_learn 46 = .ok (.iload_n 2, 1) := by decide +kernel
theorem dX8_learn_47 : decode cX8_learn 47 = .ok (.iload_n 1, 1) := by decide +kernel
theorem dX8_learn_48 : decode cX8_learn 48 = .ok (.if_icmp .ge 16, 3) := by decide +kernel
theorem dX8_learn_51 : decode cX8_learn 51 = .ok (.aload_n 0, 1) := by decide +kernel
theorem dX8_learn_52 : decode cX8_learn 52 = .ok (.invokevirtual 164, 3) := by decide +kernel
theorem dX8_learn_55 : decode cX8_learn 55 = .ok (.ifCond .eq 9, 3) := by decide +kernel
theorem dX8_learn_58 : decode cX8_learn 58 = .ok (.iinc 2 1, 3) := by decide +kernel
theorem dX8_learn_61 : decode cX8_learn 61 = .ok (.goto (-15), 3) := by decide +kernel
theorem dX8_learn_64 : decode cX8_learn 64 = .ok (.iload_n 2, 1) := by decide +kernel
theorem dX8_learn_65 : decode cX8_learn 65 = .ok (.ifCond .ne 6, 3) := by decide +kernel
theorem dX8_learn_68 : decode cX8_learn 68 = .ok (.bipush (-5), 2) := by decide +kernel
theorem dX8_learn_70 : decode cX8_learn 70 = .ok (.ireturn, 1) := by decide +kernel
theorem dX8_learn_71 : decode cX8_learn 71 = .ok (.aload_n 0, 1) := by decide +kernel
theorem dX8_learn_72 : decode cX8_learn 72 = .ok (.invokevirtual 168, 3) := by decide +kernel
theorem dX8_learn_75 : decode cX8_learn 75 = .ok (.aload_n 0, 1) := by decide +kernel
theorem dX8_learn_76 : decode cX8_learn 76 = .ok (.invokevirtual 105, 3) := by decide +kernel
theorem dX8_learn_79 : decode cX8_learn 79 = .ok (.aload_n 0, 1) := by decide +kernel
theorem dX8_learn_80 : decode cX8_learn 80 = .ok (.invokevirtual 168, 3) := by decide +kernel
theorem dX8_learn_83 : decode cX8_learn 83 = .ok (.iload_n 2, 1) := by decide +kernel
theorem dX8_learn_84 : decode cX8_learn 84 = .ok (.ireturn, 1) := by decide +kernel
theorem dX8_swapsAside_0 : decode cX8_swapsAside 0 = .ok (.iconst 0, 1) := by decide +kernel
theorem dX8_swapsAside_1 : decode cX8_swapsAside 1 = .ok (.istore_n 1, 1) := by decide +kernel
theorem dX8_swapsAside_2 : decode cX8_swapsAside 2 = .ok (.iload_n 1, 1) := by decide +kernel
theorem dX8_swapsAside_3 : decode cX8_swapsAside 3 = .ok (.bipush 83, 2) := by decide +kernel
theorem dX8_swapsAside_5 : decode cX8_swapsAside 5 = .ok (.if_icmp .ge 35, 3) := by decide +kernel
theorem dX8_swapsAside_8 : decode cX8_swapsAside 8 = .ok (.aload_n 0, 1) := by decide +kernel
theorem dX8_swapsAside_9 : decode cX8_swapsAside 9 = .ok (.getfield 7, 3) := by decide +kernel
theorem dX8_swapsAside_12 : decode cX8_swapsAside 12 = .ok (.iload_n 1, 1) := by decide +kernel
theorem dX8_swapsAside_13 : decode cX8_swapsAside 13 = .ok (.iaload, 1) := by decide +kernel
theorem dX8_swapsAside_14 : decode cX8_swapsAside 14 = .ok (.istore_n 2, 1) := by decide +kernel
theorem dX8_swapsAside_15 : decode cX8_swapsAside 15 = .ok (.aload_n 0, 1) := by decide +kernel
theorem dX8_swapsAside_16 : decode cX8_swapsAside 16 = .ok (.getfield 7, 3) := by decide +kernel
theorem dX8_swapsAside_19 : decode cX8_swapsAside 19 = .ok (.iload_n 1, 1) := by decide +kernel
theorem dX8_swapsAside_20 : decode cX8_swapsAside 20 = .ok (.aload_n 0, 1) := by decide +kernel
theorem dX8_swapsAside_21 : decode cX8_swapsAside 21 = .ok (.getfield 13, 3) := by decide +kernel
theorem dX8_swapsAside_24 : decode cX8_swapsAside 24 = .ok (.iload_n 1, 1) := by decide +kernel
theorem dX8_swapsAside_25 : decode cX8_swapsAside 25 = .ok (.iaload, 1) := by decide +kernel
theorem dX8_swapsAside_26 : decode cX8_swapsAside 26 = .ok (.iastore, 1) := by decide +kernel
theorem dX8_swapsAside_27 : decode cX8_swapsAside 27 = .ok (.aload_n 0, 1) := by decide +kernel
theorem dX8_swapsAside_28 : decode cX8_swapsAside 28 = .ok (.getfield 13, 3) := by decide +kernel
theorem dX8_swapsAside_31 : decode cX8_swapsAside 31 = .ok (.iload_n 1, 1) := by decide +kernel
theorem dX8_swapsAside_32 : decode cX8_swapsAside 32 = .ok (.iload_n 2, 1) := by decide +kernel
theorem dX8_swapsAside_33 : decode cX8_swapsAside 33 = .ok (.iastore, 1) := by decide +kernel
theorem dX8_swapsAside_34 : decode cX8_swapsAside 34 = .ok (.iinc 1 1, 3) := by decide +kernel
theorem dX8_swapsAside_37 : decode cX8_swapsAside 37 = .ok (.goto (-35), 3) := by decide +kernel
theorem dX8_swapsAside_40 : decode cX8_swapsAside 40 = .ok (.return_, 1) := by decide +kernel
theorem dX8_type_0 : decode cX8_type 0 = .ok (.aload_n 0, 1) := by decide +kernel
theorem dX8_type_1 : decode cX8_type 1 = .ok (.iconst 0, 1) := by decide +kernel
theorem dX8_type_2 : decode cX8_type 2 = .ok (.putfield 50, 3) := by decide +kernel
theorem dX8_type_5 : decode cX8_type 5 = .ok (.aload_n 0, 1) := by decide +kernel
theorem dX8_type_6 : decode cX8_type 6 = .ok (.getfield 120, 3) := by decide +kernel
theorem dX8_type_9 : decode cX8_type 9 = .ok (.bipush 60, 2) := by decide +kernel
theorem dX8_type_11 : decode cX8_type 11 = .ok (.if_icmp .ne 6, 3) := by decide +kernel
theorem dX8_type_14 : decode cX8_type 14 = .ok (.bipush (-3), 2) := by decide +kernel
theorem dX8_type_16 : decode cX8_type 16 = .ok (.ireturn, 1) := by decide +kernel
theorem dX8_type_17 : decode cX8_type 17 = .ok (.aload_n 0, 1) := by decide +kernel
theorem dX8_type_18 : decode cX8_type 18 = .ok (.getfield 22, 3) := by decide +kernel
theorem dX8_type_21 : decode cX8_type 21 = .ok (.aload_n 0, 1) := by decide +kernel
theorem dX8_type_22 : decode cX8_type 22 = .ok (.getfield 120, 3) := by decide +kernel
theorem dX8_type_25 : decode cX8_type 25 = .ok (.iload_n 1, 1) := by decide +kernel
theorem dX8_type_26 : decode cX8_type 26 = .ok (.iastore, 1) := by decide +kernel
theorem dX8_type_27 : decode cX8_type 27 = .ok (.aload_n 0, 1) := by decide +kernel
theorem dX8_type_28 : decode cX8_type 28 = .ok (.dup, 1) := by decide +kernel
theorem dX8_type_29 : decode cX8_type 29 = .ok (.getfield 120, 3) := by decide +kernel
theorem dX8_type_32 : decode cX8_type 32 = .ok (.iconst 1, 1) := by decide +kernel
theorem dX8_type_33 : decode cX8_type 33 = .ok (.iadd, 1) := by decide +kernel
theorem dX8_type_34 : decode cX8_type 34 = .ok (.putfield 120, 3) := by decide +kernel
theorem dX8_type_37 : decode cX8_type 37 = .ok (.aload_n 0, 1) := by decide +kernel
theorem dX8_type_38 : decode cX8_type 38 = .ok (.getfield 120, 3) := by decide +kernel
theorem dX8_type_41 : decode cX8_type 41 = .ok (.ireturn, 1) := by decide +kernel
theorem dX8_clearText_0 : decode cX8_clearText 0 = .ok (.aload_n 0, 1) := by decide +kernel
theorem dX8_clearText_1 : decode cX8_clearText 1 = .ok (.iconst 0, 1) := by decide +kernel
theorem dX8_clearText_2 : decode cX8_clearText 2 = .ok (.putfield 50, 3) := by decide +kernel
theorem dX8_clearText_5 : decode cX8_clearText 5 = .ok (.aload_n 0, 1) := by decide +kernel
theorem dX8_clearText_6 : decode cX8_clearText 6 = .ok (.getfield 120, 3) := by decide +kernel
theorem dX8_clearText_9 : decode cX8_clearText 9 = .ok (.istore_n 1, 1) := by decide +kernel
theorem dX8_clearText_10 : decode cX8_clearText 10 = .ok (.aload_n 0, 1) := by decide +kernel
theorem dX8_clearText_11 : decode cX8_clearText 11 = .ok (.iconst 0, 1) := by decide +kernel
theorem dX8_clearText_12 : decode cX8_clearText 12 = .ok (.putfield 120, 3) := by decide +kernel
theorem dX8_clearText_15 : decode cX8_clearText 15 = .ok (.iload_n 1, 1) := by decide +kernel
theorem dX8_clearText_16 : decode cX8_clearText 16 = .ok (.ireturn, 1) := by decide +kernel
theorem dX8_undo_0 : decode cX8_undo 0 = .ok (.aload_n 0, 1) := by decide +kernel
theorem dX8_undo_1 : decode cX8_undo 1 = .ok (.iconst 0, 1) := by decide +kernel
theorem dX8_undo_2 : decode cX8_undo 2 = .ok (.putfield 50, 3) := by decide +kernel
theorem dX8_undo_5 : decode cX8_undo 5 = .ok (.aload_n 0, 1) := by decide +kernel
theorem dX8_undo_6 : decode cX8_undo 6 = .ok (.getfield 62, 3) := by decide +kernel
theorem dX8_undo_9 : decode cX8_undo 9 = .ok (.ifCond .ne 6, 3) := by decide +kernel
theorem dX8_undo_12 : decode cX8_undo 12 = .ok (.bipush (-5), 2) := by decide +kernel
theorem dX8_undo_14 : decode cX8_undo 14 = .ok (.ireturn, 1) := by decide +kernel
theorem dX8_undo_15 : decode cX8_undo 15 = .ok (.aload_n 0, 1) := by decide +kernel
theorem dX8_undo_16 : decode cX8_undo 16 = .ok (.dup, 1) := by decide +kernel
theorem dX8_undo_17 : decode cX8_undo 17 = .ok (.getfield 62, 3) := by decide +kernel
theorem dX8_undo_20 : decode cX8_undo 20 = .ok (.iconst 1, 1) := by decide +kernel
theorem dX8_undo_21 : decode cX8_undo 21 = .ok (.isub, 1) := by decide +kernel
theorem dX8_undo_22 : decode cX8_undo 22 = .ok (.putfield 62, 3) := by decide +kernel
theorem dX8_undo_25 : decode cX8_undo 25 = .ok (.iconst 0, 1) := by decide +kernel
theorem dX8_undo_26 : decode cX8_undo 26 = .ok (.istore_n 1, 1) := by decide +kernel
theorem dX8_undo_27 : decode cX8_undo 27 = .ok (.iload_n 1, 1) := by decide +kernel
theorem dX8_undo_28 : decode cX8_undo 28 = .ok (.bipush 83, 2) := by decide +kernel
theorem dX8_undo_30 : decode cX8_undo 30 = .ok (.if_icmp .ge 29, 3) := by decide +kernel
theorem dX8_undo_33 : decode cX8_undo 33 = .ok (.aload_n 0, 1) := by decide +kernel
theorem dX8_undo_34 : decode cX8_undo 34 = .ok (.getfield 7, 3) := by decide +kernel
theorem dX8_undo_37 : decode cX8_undo 37 = .ok (.iload_n 1, 1) := by decide +kernel
theorem dX8_undo_38 : decode cX8_undo 38 = .ok (.aload_n 0, 1) := by decide +kernel
theorem dX8_undo_39 : decode cX8_undo 39 = .ok (.getfield 16, 3) := by decide +kernel
theorem dX8_undo_42 : decode cX8_undo 42 = .ok (.bipush 83, 2) := by decide +kernel
theorem dX8_undo_44 : decode cX8_undo 44 = .ok (.aload_n 0, 1) := by decide +kernel
theorem dX8_undo_45 : decode cX8_undo 45 = .ok (.getfield 62, 3) := by decide +kernel
theorem dX8_undo_48 : decode cX8_undo 48 = .ok (.imul, 1) := by decide +kernel
theorem dX8_undo_49 : decode cX8_undo 49 = .ok (.iload_n 1, 1) := by decide +kernel
theorem dX8_undo_50 : decode cX8_undo 50 = .ok (.iadd, 1) := by decide +kernel
theorem dX8_undo_51 : decode cX8_undo 51 = .ok (.iaload, 1) := by decide +kernel
theorem dX8_undo_52 : decode cX8_undo 52 = .ok (.iastore, 1) := by decide +kernel
theorem dX8_undo_53 : decode cX8_undo 53 = .ok (.iinc 1 1, 3) := by decide +kernel
theorem dX8_undo_56 : decode cX8_undo 56 = .ok (.goto (-29), 3) := by decide +kernel
theorem dX8_undo_59 : decode cX8_undo 59 = .ok (.aload_n 0, 1) := by decide +kernel
theorem dX8_undo_60 : decode cX8_undo 60 = .ok (.getfield 62, 3) := by decide +kernel
theorem dX8_undo_63 : decode cX8_undo 63 = .ok (.ireturn, 1) := by decide +kernel
theorem dX8_keep_0 : decode cX8_keep 0 = .ok (.aload_n 0, 1) := by decide +kernel
theorem dX8_keep_1 : decode cX8_keep 1 = .ok (.iconst 0, 1) := by decide +kernel
theorem dX8_keep_2 : decode cX8_keep 2 = .ok (.putfield 50, 3) := by decide +kernel
theorem dX8_keep_5 : decode cX8_keep 5 = .ok (.iconst 0, 1) := by decide +kernel
theorem dX8_keep_6 : decode cX8_keep 6 = .ok (.istore_n 1, 1) := by decide +kernel
theorem dX8_keep_7 : decode cX8_keep 7 = .ok (.iload_n 1, 1) := by decide +kernel
theorem dX8_keep_8 : decode cX8_keep 8 = .ok (.bipush 83, 2) := by decide +kernel
theorem dX8_keep_10 : decode cX8_keep 10 = .ok (.if_icmp .ge 21, 3) := by decide +kernel
theorem dX8_keep_13 : decode cX8_keep 13 = .ok (.aload_n 0, 1) := by decide +kernel
theorem dX8_keep_14 : decode cX8_keep 14 = .ok (.getfield 19, 3) := by decide +kernel
theorem dX8_keep_17 : decode cX8_keep 17 = .ok (.iload_n 1, 1) := by decide +kernel
theorem dX8_keep_18 : decode cX8_keep 18 = .ok (.aload_n 0, 1) := by decide +kernel
theorem dX8_keep_19 : decode cX8_keep 19 = .ok (.getfield 7, 3) := by decide +kernel
theorem dX8_keep_22 : decode cX8_keep 22 = .ok (.iload_n 1, 1) := by decide +kernel
theorem dX8_keep_23 : decode cX8_keep 23 = .ok (.iaload, 1) := by decide +kernel
theorem dX8_keep_24 : decode cX8_keep 24 = .ok (.iastore, 1) := by decide +kernel
theorem dX8_keep_25 : decode cX8_keep 25 = .ok (.iinc 1 1, 3) := by decide +kernel
theorem dX8_keep_28 : decode cX8_keep 28 = .ok (.goto (-21), 3) := by decide +kernel
theorem dX8_keep_31 : decode cX8_keep 31 = .ok (.aload_n 0, 1) := by decide +kernel
theorem dX8_keep_32 : decode cX8_keep 32 = .ok (.iconst 1, 1) := by decide +kernel
theorem dX8_keep_33 : decode cX8_keep 33 = .ok (.putfield 171, 3) := by decide +kernel
theorem dX8_keep_36 : decode cX8_keep 36 = .ok (.aload_n 0, 1) := by decide +kernel
theorem dX8_keep_37 : decode cX8_keep 37 = .ok (.getfield 7, 3) := by decide +kernel
theorem dX8_keep_40 : decode cX8_keep 40 = .ok (.iconst 1, 1) := by decide +kernel
theorem dX8_keep_41 : decode cX8_keep 41 = .ok (.iaload, 1) := by decide +kernel
theorem dX8_keep_42 : decode cX8_keep 42 = .ok (.ireturn, 1) := by decide +kernel
theorem dX8_restore_0 : decode cX8_restore 0 = .ok (.aload_n 0, 1) := by decide +kernel
theorem dX8_restore_1 : decode cX8_restore 1 = .ok (.iconst 0, 1) := by decide +kernel
theorem dX8_restore_2 : decode cX8_restore 2 = .ok (.putfield 50, 3) := by decide +kernel
theorem dX8_restore_5 : decode cX8_restore 5 = .ok (.aload_n 0, 1) := by decide +kernel
theorem dX8_restore_6 : decode cX8_restore 6 = .ok (.getfield 171, 3) := by decide +kernel
theorem dX8_restore_9 : decode cX8_restore 9 = .ok (.ifCond .ne 6, 3) := by decide +kernel
theorem dX8_restore_12 : decode cX8_restore 12 = .ok (.bipush (-5), 2) := by decide +kernel
theorem dX8_restore_14 : decode cX8_restore 14 = .ok (.ireturn, 1) := by decide +kernel
theorem dX8_restore_15 : decode cX8_restore 15 = .ok (.aload_n 0, 1) := by decide +kernel
theorem dX8_restore_16 : decode cX8_restore 16 = .ok (.invokevirtual 105, 3) := by decide +kernel
theorem dX8_restore_19 : decode cX8_restore 19 = .ok (.iconst 0, 1) := by decide +kernel
theorem dX8_restore_20 : decode cX8_restore 20 = .ok (.istore_n 1, 1) := by decide +kernel
theorem dX8_restore_21 : decode cX8_restore 21 = .ok (.iload_n 1, 1) := by decide +kernel
theorem dX8_restore_22 : decode cX8_restore 22 = .ok (.bipush 83, 2) := by decide +kernel
theorem dX8_restore_24 : decode cX8_restore 24 = .ok (.if_icmp .ge 21, 3) := by decide +kernel
theorem dX8_restore_27 : decode cX8_restore 27 = .ok (.aload_n 0, 1) := by decide +kernel
theorem dX8_restore_28 : decode cX8_restore 28 = .ok (.getfield 7, 3) := by decide +kernel
theorem dX8_restore_31 : decode cX8_restore 31 = .ok (.iload_n 1, 1) := by decide +kernel
theorem dX8_restore_32 : decode cX8_restore 32 = .ok (.aload_n 0, 1) := by decide +kernel
theorem dX8_restore_33 : decode cX8_restore 33 = .ok (.getfield 19, 3) := by decide +kernel
theorem dX8_restore_36 : decode cX8_restore 36 = .ok (.iload_n 1, 1) := by decide +kernel
theorem dX8_restore_37 : decode cX8_restore 37 = .ok (.iaload, 1) := by decide +kernel
theorem dX8_restore_38 : decode cX8_restore 38 = .ok (.iastore, 1) := by decide +kernel
theorem dX8_restore_39 : decode cX8_restore 39 = .ok (.iinc 1 1, 3) := by decide +kernel
theorem dX8_restore_42 : decode cX8_restore 42 = .ok (.goto (-21), 3) := by decide +kernel
theorem dX8_restore_45 : decode cX8_restore 45 = .ok (.aload_n 0, 1) := by decide +kernel
theorem dX8_restore_46 : decode cX8_restore 46 = .ok (.getfield 7, 3) := by decide +kernel
theorem dX8_restore_49 : decode cX8_restore 49 = .ok (.iconst 1, 1) := by decide +kernel
theorem dX8_restore_50 : decode cX8_restore 50 = .ok (.iaload, 1) := by decide +kernel
theorem dX8_restore_51 : decode cX8_restore 51 = .ok (.ireturn, 1) := by decide +kernel
theorem dX8_laysOdds_0 : decode cX8_laysOdds 0 = .ok (.iconst 0, 1) := by decide +kernel
theorem dX8_laysOdds_1 : decode cX8_laysOdds 1 = .ok (.istore_n 3, 1) := by decide +kernel
theorem dX8_laysOdds_2 : decode cX8_laysOdds 2 = .ok (.sipush 1000, 3) := by decide +kernel
theorem dX8_laysOdds_5 : decode cX8_laysOdds 5 = .ok (.istore 4, 2) := by decide +kernel
theorem dX8_laysOdds_7 : decode cX8_laysOdds 7 = .ok (.iconst 0, 1) := by decide +kernel
theorem dX8_laysOdds_8 : decode cX8_laysOdds 8 = .ok (.istore 5, 2) := by decide +kernel
theorem dX8_laysOdds_10 : decode cX8_laysOdds 10 = .ok (.iload 5, 2) := by decide +kernel
theorem dX8_laysOdds_12 : decode cX8_laysOdds 12 = .ok (.iload_n 2, 1) := by decide +kernel
theorem dX8_laysOdds_13 : decode cX8_laysOdds 13 = .ok (.if_icmp .ge 21, 3) := by decide +kernel
theorem dX8_laysOdds_16 : decode cX8_laysOdds 16 = .ok (.iload_n 3, 1) := by decide +kernel
theorem dX8_laysOdds_17 : decode cX8_laysOdds 17 = .ok (.aload_n 0, 1) := by decide +kernel
theorem dX8_laysOdds_18 : decode cX8_laysOdds 18 = .ok (.getfield 7, 3) := by decide +kernel
theorem dX8_laysOdds_21 : decode cX8_laysOdds 21 = .ok (.iload_n 1, 1) := by decide +kernel
theorem dX8_laysOdds_22 : decode cX8_laysOdds 22 = .ok (.iload 5, 2) := by decide +kernel
theorem dX8_laysOdds_24 : decode cX8_laysOdds 24 = .ok (.iadd, 1) := by decide +kernel
theorem dX8_laysOdds_25 : decode cX8_laysOdds 25 = .ok (.iaload, 1) := by decide +kernel
theorem dX8_laysOdds_26 : decode cX8_laysOdds 26 = .ok (.iadd, 1) := by decide +kernel
theorem dX8_laysOdds_27 : decode cX8_laysOdds 27 = .ok (.istore_n 3, 1) := by decide +kernel
theorem dX8_laysOdds_28 : decode cX8_laysOdds 28 = .ok (.iinc 5 1, 3) := by decide +kernel
theorem dX8_laysOdds_31 : decode cX8_laysOdds 31 = .ok (.goto (-21), 3) := by decide +kernel
theorem dX8_laysOdds_34 : decode cX8_laysOdds 34 = .ok (.iconst 0, 1) := by decide +kernel
theorem dX8_laysOdds_35 : decode cX8_laysOdds 35 = .ok (.istore 5, 2) := by decide +kernel
theorem dX8_laysOdds_37 : decode cX8_laysOdds 37 = .ok (.iload 5, 2) := by decide +kernel
theorem dX8_laysOdds_39 : decode cX8_laysOdds 39 = .ok (.iload_n 2, 1) := by decide +kernel
theorem dX8_laysOdds_40 : decode cX8_laysOdds 40 = .ok (.if_icmp .ge 81, 3) := by decide +kernel
theorem dX8_laysOdds_43 : decode cX8_laysOdds 43 = .ok (.aload_n 0, 1) := by decide +kernel
theorem dX8_laysOdds_44 : decode cX8_laysOdds 44 = .ok (.getfield 44, 3) := by decide +kernel
theorem dX8_laysOdds_47 : decode cX8_laysOdds 47 = .ok (.iload 5, 2) := by decide +kernel
theorem dX8_laysOdds_49 : decode cX8_laysOdds 49 = .ok (.iload_n 3, 1) := by decide +kernel
theorem dX8_laysOdds_50 : decode cX8_laysOdds 50 = .ok (.ifCond .ne 7, 3) := by decide +kernel
theorem dX8_laysOdds_53 : decode cX8_laysOdds 53 = .ok (.iconst 0, 1) := by decide +kernel
theorem dX8_laysOdds_54 : decode cX8_laysOdds 54 = .ok (.goto 18, 3) := by decide +kernel
theorem dX8_laysOdds_57 : decode cX8_laysOdds 57 = .ok (.sipush 1000, 3) := by decide +kernel
theorem dX8_laysOdds_60 : decode cX8_laysOdds 60 = .ok (.aload_n 0, 1) := by decide +kernel
theorem dX8_laysOdds_61 : decode cX8_laysOdds 61 = .ok (.getfield 7, 3) := by decide +kernel
theorem dX8_laysOdds_64 : decode cX8_laysOdds 64 = .ok (.iload_n 1, 1) := by decide +kernel
theorem dX8_laysOdds_65 : decode cX8_laysOdds 65 = .ok (.iload 5, 2) := by decide +kernel
theorem dX8_laysOdds_67 : decode cX8_laysOdds 67 = .ok (.iadd, 1) := by decide +kernel
theorem dX8_laysOdds_68 : decode cX8_laysOdds 68 = .ok (.iaload, 1) := by decide +kernel
theorem dX8_laysOdds_69 : decode cX8_laysOdds 69 = .ok (.imul, 1) := by decide +kernel
theorem dX8_laysOdds_70 : decode cX8_laysOdds 70 = .ok (.iload_n 3, 1) := by decide +kernel
theorem dX8_laysOdds_71 : decode cX8_laysOdds 71 = .ok (.idiv, 1) := by decide +kernel
theorem dX8_laysOdds_72 : decode cX8_laysOdds 72 = .ok (.iastore, 1) := by decide +kernel
theorem dX8_laysOdds_73 : decode cX8_laysOdds 73 = .ok (.aload_n 0, 1) := by decide +kernel
theorem dX8_laysOdds_74 : decode cX8_laysOdds 74 = .ok (.getfield 41, 3) := by decide +kernel
theorem dX8_laysOdds_77 : decode cX8_laysOdds 77 = .ok (.iload 5, 2) := by decide +kernel
theorem dX8_laysOdds_79 : decode cX8_laysOdds 79 = .ok (.iload_n 3, 1) := by decide +kernel
theorem dX8_laysOdds_80 : decode cX8_laysOdds 80 = .ok (.ifCond .ne 7, 3) := by decide +kernel
theorem dX8_laysOdds_83 : decode cX8_laysOdds 83 = .ok (.iconst 0, 1) := by decide +kernel
theorem dX8_laysOdds_84 : decode cX8_laysOdds 84 = .ok (.goto 18, 3) := by decide +kernel
theorem dX8_laysOdds_87 : decode cX8_laysOdds 87 = .ok (.sipush 1000, 3) := by decide +kernel
theorem dX8_laysOdds_90 : decode cX8_laysOdds 90 = .ok (.aload_n 0, 1) := by decide +kernel
theorem dX8_laysOdds_91 : decode cX8_laysOdds 91 = .ok (.getfield 7, 3) := by decide +kernel
theorem dX8_laysOdds_94 : decode cX8_laysOdds 94 = .ok (.iload_n 1, 1) := by decide +kernel
theorem dX8_laysOdds_95 : decode cX8_laysOdds 95 = .ok (.iload 5, 2) := by decide +kernel
theorem dX8_laysOdds_97 : decode cX8_laysOdds 97 = .ok (.iadd, 1) := by decide +kernel
theorem dX8_laysOdds_98 : decode cX8_laysOdds 98 = .ok (.iaload, 1) := by decide +kernel
theorem dX8_laysOdds_99 : decode cX8_laysOdds 99 = .ok (.imul, 1) := by decide +kernel
theorem dX8_laysOdds_100 : decode cX8_laysOdds 100 = .ok (.iload_n 3, 1) := by decide +kernel
theorem dX8_laysOdds_101 : decode cX8_laysOdds 101 = .ok (.irem, 1) := by decide +kernel
theorem dX8_laysOdds_102 : decode cX8_laysOdds 102 = .ok (.iastore, 1) := by decide +kernel
theorem dX8_laysOdds_103 : decode cX8_laysOdds 103 = .ok (.iload 4, 2) := by decide +kernel
theorem dX8_laysOdds_105 : decode cX8_laysOdds 105 = .ok (.aload_n 0, 1) := by decide +kernel
theorem dX8_laysOdds_106 : decode cX8_laysOdds 106 = .ok (.getfield 44, 3) := by decide +kernel
theorem dX8_laysOdds_109 : decode cX8_laysOdds 109 = .ok (.iload 5, 2) := by decide +kernel
theorem dX8_laysOdds_111 : decode cX8_laysOdds 111 = .ok (.iaload, 1) := by decide +kernel
theorem dX8_laysOdds_112 : decode cX8_laysOdds 112 = .ok (.isub, 1) := by decide +kernel
theorem dX8_laysOdds_113 : decode cX8_laysOdds 113 = .ok (.istore 4, 2) := by decide +kernel
theorem dX8_laysOdds_115 : decode cX8_laysOdds 115 = .ok (.iinc 5 1, 3) := by decide +kernel
theorem dX8_laysOdds_118 : decode cX8_laysOdds 118 = .ok (.goto (-81), 3) := by decide +kernel
theorem dX8_laysOdds_121 : decode cX8_laysOdds 121 = .ok (.iload 4, 2) := by decide +kernel
theorem dX8_laysOdds_123 : decode cX8_laysOdds 123 = .ok (.ifCond .le 76, 3) := by decide +kernel
theorem dX8_laysOdds_126 : decode cX8_laysOdds 126 = .ok (.iload_n 3, 1) := by decide +kernel
theorem dX8_laysOdds_127 : decode cX8_laysOdds 127 = .ok (.ifCond .le 72, 3) := by decide +kernel
theorem dX8_laysOdds_130 : decode cX8_laysOdds 130 = .ok (.iconst 0, 1) := by decide +kernel
theorem dX8_laysOdds_131 : decode cX8_laysOdds 131 = .ok (.istore 5, 2) := by decide +kernel
theorem dX8_laysOdds_133 : decode cX8_laysOdds 133 = .ok (.iconst 1, 1) := by decide +kernel
theorem dX8_laysOdds_134 : decode cX8_laysOdds 134 = .ok (.istore 6, 2) := by decide +kernel
theorem dX8_laysOdds_136 : decode cX8_laysOdds 136 = .ok (.iload 6, 2) := by decide +kernel
theorem dX8_laysOdds_138 : decode cX8_laysOdds 138 = .ok (.iload_n 2, 1) := by decide +kernel
theorem dX8_laysOdds_139 : decode cX8_laysOdds 139 = .ok (.if_icmp .ge 35, 3) := by decide +kernel
theorem dX8_laysOdds_142 : decode cX8_laysOdds 142 = .ok (.aload_n 0, 1) := by decide +kernel
theorem dX8_laysOdds_143 : decode cX8_laysOdds 143 = .ok (.getfield 41, 3) := by decide +kernel
theorem dX8_laysOdds_146 : decode cX8_laysOdds 146 = .ok (.iload 6, 2) := by decide +kernel
theorem dX8_laysOdds_148 : decode cX8_laysOdds 148 = .ok (.iaload, 1) := by decide +kernel
theorem dX8_laysOdds_149 : decode cX8_laysOdds 149 = .ok (.aload_n 0, 1) := by decide +kernel
theorem dX8_laysOdds_150 : decode cX8_laysOdds 150 = .ok (.getfield 41, 3) := by decide +kernel
theorem dX8_laysOdds_153 : decode cX8_laysOdds 153 = .ok (.iload 5, 2) := by decide +kernel
theorem dX8_laysOdds_155 : decode cX8_laysOdds 155 = .ok (.iaload, 1) := by decide +kernel
theorem dX8_laysOdds_156 : decode cX8_laysOdds 156 = .ok (.if_icmp .le 8, 3) := by decide +kernel
theorem dX8_laysOdds_159 : decode cX8_laysOdds 159 = .ok (.iload 6, 2) := by decide +kernel
theorem dX8_laysOdds_161 : decode cX8_laysOdds 161 = .ok (.goto 5, 3) := by decide +kernel
theorem dX8_laysOdds_164 : decode cX8_laysOdds 164 = .ok (.iload 5, 2) := by decide +kernel
theorem dX8_laysOdds_166 : decode cX8_laysOdds 166 = .ok (.istore 5, 2) := by decide +kernel
theorem dX8_laysOdds_168 : decode cX8_laysOdds 168 = .ok (.iinc 6 1, 3) := by decide +kernel
theorem dX8_laysOdds_171 : decode cX8_laysOdds 171 = .ok (.goto (-35), 3) := by decide +kernel
theorem dX8_laysOdds_174 : decode cX8_laysOdds 174 = .ok (.aload_n 0, 1) := by decide +kernel
theorem dX8_laysOdds_175 : decode cX8_laysOdds 175 = .ok (.getfield 44, 3) := by decide +kernel
theorem dX8_laysOdds_178 : decode cX8_laysOdds 178 = .ok (.iload 5, 2) := by decide +kernel
theorem dX8_laysOdds_180 : decode cX8_laysOdds 180 = .ok (.dup2, 1) := by decide +kernel
theorem dX8_laysOdds_181 : decode cX8_laysOdds 181 = .ok (.iaload, 1) := by decide +kernel
theorem dX8_laysOdds_182 : decode cX8_laysOdds 182 = .ok (.iconst 1, 1) := by decide +kernel
theorem dX8_laysOdds_183 : decode cX8_laysOdds 183 = .ok (.iadd, 1) := by decide +kernel
theorem dX8_laysOdds_184 : decode cX8_laysOdds 184 = .ok (.iastore, 1) := by decide +kernel
theorem dX8_laysOdds_185 : decode cX8_laysOdds 185 = .ok (.aload_n 0, 1) := by decide +kernel
theorem dX8_laysOdds_186 : decode cX8_laysOdds 186 = .ok (.getfield 41, 3) := by decide +kernel
theorem dX8_laysOdds_189 : decode cX8_laysOdds 189 = .ok (.iload 5, 2) := by decide +kernel
theorem dX8_laysOdds_191 : decode cX8_laysOdds 191 = .ok (.iconst (-1), 1) := by decide +kernel
theorem dX8_laysOdds_192 : decode cX8_laysOdds 192 = .ok (.iastore, 1) := by decide +kernel
theorem dX8_laysOdds_193 : decode cX8_laysOdds 193 = .ok (.iinc 4 (-1), 3) := by decide +kernel
theorem dX8_laysOdds_196 : decode cX8_laysOdds 196 = .ok (.goto (-75), 3) := by decide +kernel
theorem dX8_laysOdds_199 : decode cX8_laysOdds 199 = .ok (.return_, 1) := by decide +kernel
theorem dX8_weight_0 : decode cX8_weight 0 = .ok (.aload_n 0, 1) := by decide +kernel
theorem dX8_weight_1 : decode cX8_weight 1 = .ok (.iconst 0, 1) := by decide +kernel
theorem dX8_weight_2 : decode cX8_weight 2 = .ok (.putfield 50, 3) := by decide +kernel
theorem dX8_weight_5 : decode cX8_weight 5 = .ok (.aload_n 0, 1) := by decide +kernel
theorem dX8_weight_6 : decode cX8_weight 6 = .ok (.iload_n 1, 1) := by decide +kernel
theorem dX8_weight_7 : decode cX8_weight 7 = .ok (.iload_n 2, 1) := by decide +kernel
theorem dX8_weight_8 : decode cX8_weight 8 = .ok (.iload_n 3, 1) := by decide +kernel
theorem dX8_weight_9 : decode cX8_weight 9 = .ok (.invokevirtual 101, 3) := by decide +kernel
theorem dX8_weight_12 : decode cX8_weight 12 = .ok (.istore 5, 2) := by decide +kernel
theorem dX8_weight_14 : decode cX8_weight 14 = .ok (.iload 5, 2) := by decide +kernel
theorem dX8_weight_16 : decode cX8_weight 16 = .ok (.ifCond .lt 8, 3) := by decide +kernel
theorem dX8_weight_19 : decode cX8_weight 19 = .ok (.iload 4, 2) := by decide +kernel
theorem dX8_weight_21 : decode cX8_weight 21 = .ok (.ifCond .ne 23, 3) := by decide +kernel
theorem dX8_weight_24 : decode cX8_weight 24 = .ok (.iload 5, 2) := by decide +kernel
theorem dX8_weight_26 : decode cX8_weight 26 = .ok (.ifCond .ge 8, 3) := by decide +kernel
theorem dX8_weight_29 : decode cX8_weight 29 = .ok (.iload 5, 2) := by decide +kernel
theorem dX8_weight_31 : decode cX8_weight 31 = .ok (.goto 20, 3) := by decide +kernel
theorem dX8_weight_34 : decode cX8_weight 34 = .ok (.aload_n 0, 1) := by decide +kernel
theorem dX8_weight_35 : decode cX8_weight 35 = .ok (.getfield 7, 3) := by decide +kernel
theorem dX8_weight_38 : decode cX8_weight 38 = .ok (.iload 5, 2) := by decide +kernel
theorem dX8_weight_40 : decode cX8_weight 40 = .ok (.iaload, 1) := by decide +kernel
theorem dX8_weight_41 : decode cX8_weight 41 = .ok (.goto 10, 3) := by decide +kernel
theorem dX8_weight_44 : decode cX8_weight 44 = .ok (.aload_n 0, 1) := by decide +kernel
theorem dX8_weight_45 : decode cX8_weight 45 = .ok (.iload_n 1, 1) := by decide +kernel
theorem dX8_weight_46 : decode cX8_weight 46 = .ok (.iload_n 2, 1) := by decide +kernel
theorem dX8_weight_47 : decode cX8_weight 47 = .ok (.iload_n 3, 1) := by decide +kernel
theorem dX8_weight_48 : decode cX8_weight 48 = .ok (.invokevirtual 174, 3) := by decide +kernel
theorem dX8_weight_51 : decode cX8_weight 51 = .ok (.ireturn, 1) := by decide +kernel
theorem dX8_oddsOf_0 : decode cX8_oddsOf 0 = .ok (.aload_n 0, 1) := by decide +kernel
theorem dX8_oddsOf_1 : decode cX8_oddsOf 1 = .ok (.iload_n 1, 1) := by decide +kernel
theorem dX8_oddsOf_2 : decode cX8_oddsOf 2 = .ok (.ifCond .ne 7, 3) := by decide +kernel
theorem dX8_oddsOf_5 : decode cX8_oddsOf 5 = .ok (.iconst 3, 1) := by decide +kernel
theorem dX8_oddsOf_6 : decode cX8_oddsOf 6 = .ok (.goto 23, 3) := by decide +kernel
theorem dX8_oddsOf_9 : decode cX8_oddsOf 9 = .ok (.iload_n 1, 1) := by decide +kernel
theorem dX8_oddsOf_10 : decode cX8_oddsOf 10 = .ok (.iconst 1, 1) := by decide +kernel
theorem dX8_oddsOf_11 : decode cX8_oddsOf 11 = .ok (.if_icmp .ne 12, 3) := by decide +kernel
theorem dX8_oddsOf_14 : decode cX8_oddsOf 14 = .ok (.bipush 7, 2) := by decide +kernel
theorem dX8_oddsOf_16 : decode cX8_oddsOf 16 = .ok (.iconst 4, 1) := by decide +kernel
theorem dX8_oddsOf_17 : decode cX8_oddsOf 17 = .ok (.iload_n 2, 1) := by decide +kernel
theorem dX8_oddsOf_18 : decode cX8_oddsOf 18 = .ok (.imul, 1) := by decide +kernel
theorem dX8_oddsOf_19 : decode cX8_oddsOf 19 = .ok (.iadd, 1) := by decide +kernel
theorem dX8_oddsOf_20 : decode cX8_oddsOf 20 = .ok (.goto 9, 3) := by decide +kernel
theorem dX8_oddsOf_23 : decode cX8_oddsOf 23 = .ok (.bipush 23, 2) := by decide +kernel
theorem dX8_oddsOf_25 : decode cX8_oddsOf 25 = .ok (.iconst 3, 1) := by decide +kernel
theorem dX8_oddsOf_26 : decode cX8_oddsOf 26 = .ok (.iload_n 2, 1) := by decide +kernel
theorem dX8_oddsOf_27 : decode cX8_oddsOf 27 = .ok (.imul, 1) := by decide +kernel
theorem dX8_oddsOf_28 : decode cX8_oddsOf 28 = .ok (.iadd, 1) := by decide +kernel
theorem dX8_oddsOf_29 : decode cX8_oddsOf 29 = .ok (.iload_n 1, 1) := by decide +kernel
theorem dX8_oddsOf_30 : decode cX8_oddsOf 30 = .ok (.iconst 2, 1) := by decide +kernel
theorem dX8_oddsOf_31 : decode cX8_oddsOf 31 = .ok (.if_icmp .ne 7, 3) := by decide +kernel
theorem dX8_oddsOf_34 : decode cX8_oddsOf 34 = .ok (.iconst 3, 1) := by decide +kernel
theorem dX8_oddsOf_35 : decode cX8_oddsOf 35 = .ok (.goto 9, 3) := by decide +kernel
theorem dX8_oddsOf_38 : decode cX8_oddsOf 38 = .ok (.aload_n 0, 1) := by decide +kernel
theorem dX8_oddsOf_39 : decode cX8_oddsOf 39 = .ok (.getfield 7, 3) := by decide +kernel
theorem dX8_oddsOf_42 : decode cX8_oddsOf 42 = .ok (.iconst 0, 1) := by decide +kernel
theorem dX8_oddsOf_43 : decode cX8_oddsOf 43 = .ok (.iaload, 1) := by decide +kernel
theorem dX8_oddsOf_44 : decode cX8_oddsOf 44 = .ok (.invokevirtual 177, 3) := by decide +kernel
theorem dX8_oddsOf_47 : decode cX8_oddsOf 47 = .ok (.aload_n 0, 1) := by decide +kernel
theorem dX8_oddsOf_48 : decode cX8_oddsOf 48 = .ok (.getfield 44, 3) := by decide +kernel
theorem dX8_oddsOf_51 : decode cX8_oddsOf 51 = .ok (.iload_n 1, 1) := by decide +kernel
theorem dX8_oddsOf_52 : decode cX8_oddsOf 52 = .ok (.ifCond .ne 7, 3) := by decide +kernel
theorem dX8_oddsOf_55 : decode cX8_oddsOf 55 = .ok (.iload_n 2, 1) := by decide +kernel
theorem dX8_oddsOf_56 : decode cX8_oddsOf 56 = .ok (.goto 4, 3) := by decide +kernel
theorem dX8_oddsOf_59 : decode cX8_oddsOf 59 = .ok (.iload_n 3, 1) := by decide +kernel
theorem dX8_oddsOf_60 : decode cX8_oddsOf 60 = .ok (.iaload, 1) := by decide +kernel
theorem dX8_oddsOf_61 : decode cX8_oddsOf 61 = .ok (.ireturn, 1) := by decide +kernel
theorem dX8_isPlace_0 : decode cX8_isPlace 0 = .ok (.aload_n 0, 1) := by decide +kernel
theorem dX8_isPlace_1 : decode cX8_isPlace 1 = .ok (.iload_n 1, 1) := by decide +kernel
theorem dX8_isPlace_2 : decode cX8_isPlace 2 = .ok (.invokevirtual 140, 3) := by decide +kernel
theorem dX8_isPlace_5 : decode cX8_isPlace 5 = .ok (.ifCond .eq 22, 3) := by decide +kernel
theorem dX8_isPlace_8 : decode cX8_isPlace 8 = .ok (.iload_n 2, 1) := by decide +kernel
theorem dX8_isPlace_9 : decode cX8_isPlace 9 = .ok (.iconst 0, 1) := by decide +kernel
theorem dX8_isPlace_10 : decode cX8_isPlace 10 = .ok (.aload_n 0, 1) := by decide +kernel
theorem dX8_isPlace_11 : decode cX8_isPlace 11 = .ok (.iload_n 1, 1) := by decide +kernel
theorem dX8_isPlace_12 : decode cX8_isPlace 12 = .ok (.invokevirtual 65, 3) := by decide +kernel
theorem dX8_isPlace_15 : decode cX8_isPlace 15 = .ok (.iconst 1, 1) := by decide +kernel
theorem dX8_isPlace_16 : decode cX8_isPlace 16 = .ok (.isub, 1) := by decide +kernel
theorem dX8_isPlace_17 : decode cX8_isPlace 17 = .ok (.invokestatic 58, 3) := by decide +kernel
theorem dX8_isPlace_20 : decode cX8_isPlace 20 = .ok (.ifCond .eq 7, 3) := by decide +kernel
theorem dX8_isPlace_23 : decode cX8_isPlace 23 = .ok (.iconst 1, 1) := by decide +kernel
theorem dX8_isPlace_24 : decode cX8_isPlace 24 = .ok (.goto 4, 3) := by decide +kernel
theorem dX8_isPlace_27 : decode cX8_isPlace 27 = .ok (.iconst 0, 1) := by decide +kernel
theorem dX8_isPlace_28 : decode cX8_isPlace 28 = .ok (.ireturn, 1) := by decide +kernel
theorem dX8_sign_0 : decode cX8_sign 0 = .ok (.aload_n 0, 1) := by decide +kernel
theorem dX8_sign_1 : decode cX8_sign 1 = .ok (.iconst 0, 1) := by decide +kernel
theorem dX8_sign_2 : decode cX8_sign 2 = .ok (.putfield 50, 3) := by decide +kernel
theorem dX8_sign_5 : decode cX8_sign 5 = .ok (.aload_n 0, 1) := by decide +kernel
theorem dX8_sign_6 : decode cX8_sign 6 = .ok (.iload_n 1, 1) := by decide +kernel
theorem dX8_sign_7 : decode cX8_sign 7 = .ok (.iload_n 2, 1) := by decide +kernel
theorem dX8_sign_8 : decode cX8_sign 8 = .ok (.invokevirtual 181, 3) := by decide +kernel
theorem dX8_sign_11 : decode cX8_sign 11 = .ok (.ifCond .eq 12, 3) := by decide +kernel
theorem dX8_sign_14 : decode cX8_sign 14 = .ok (.aload_n 0, 1) := by decide +kernel
theorem dX8_sign_15 : decode cX8_sign 15 = .ok (.iload_n 1, 1) := by decide +kernel
theorem dX8_sign_16 : decode cX8_sign 16 = .ok (.iload_n 2, 1) := by decide +kernel
theorem dX8_sign_17 : decode cX8_sign 17 = .ok (.invokevirtual 69, 3) := by decide +kernel
theorem dX8_sign_20 : decode cX8_sign 20 = .ok (.goto 4, 3) := by decide +kernel
theorem dX8_sign_23 : decode cX8_sign 23 = .ok (.iconst (-1), 1) := by decide +kernel
theorem dX8_sign_24 : decode cX8_sign 24 = .ok (.ireturn, 1) := by decide +kernel
theorem dX8_ofSample_0 : decode cX8_ofSample 0 = .ok (.aload_n 0, 1) := by decide +kernel
theorem dX8_ofSample_1 : decode cX8_ofSample 1 = .ok (.iconst 0, 1) := by decide +kernel
theorem dX8_ofSample_2 : decode cX8_ofSample 2 = .ok (.putfield 50, 3) := by decide +kernel
theorem dX8_ofSample_5 : decode cX8_ofSample 5 = .ok (.aload_n 0, 1) := by decide +kernel
theorem dX8_ofSample_6 : decode cX8_ofSample 6 = .ok (.iload_n 1, 1) := by decide +kernel
theorem dX8_ofSample_7 : decode cX8_ofSample 7 = .ok (.invokevirtual 140, 3) := by decide +kernel
theorem dX8_ofSample_10 : decode cX8_ofSample 10 = .ok (.ifCond .ne 7, 3) := by decide +kernel
theorem dX8_ofSample_13 : decode cX8_ofSample 13 = .ok (.ldc2_w 184, 3) := by decide +kernel
theorem dX8_ofSample_16 : decode cX8_ofSample 16 = .ok (.lreturn, 1) := by decide +kernel
theorem dX8_ofSample_17 : decode cX8_ofSample 17 = .ok (.iload_n 2, 1) := by decide +kernel
theorem dX8_ofSample_18 : decode cX8_ofSample 18 = .ok (.iconst 0, 1) := by decide +kernel
theorem dX8_ofSample_19 : decode cX8_ofSample 19 = .ok (.iconst 2, 1) := by decide +kernel
theorem dX8_ofSample_20 : decode cX8_ofSample 20 = .ok (.invokestatic 58, 3) := by decide +kernel
theorem dX8_ofSample_23 : decode cX8_ofSample 23 = .ok (.ifCond .ne 7, 3) := by decide +kernel
theorem dX8_ofSample_26 : decode cX8_ofSample 26 = .ok (.ldc2_w 186, 3) := by decide +kernel
theorem dX8_ofSample_29 : decode cX8_ofSample 29 = .ok (.lreturn, 1) := by decide +kernel
theorem dX8_ofSample_30 : decode cX8_ofSample 30 = .ok (.aload_n 0, 1) := by decide +kernel
theorem dX8_ofSample_31 : decode cX8_ofSample 31 = .ok (.iload_n 1, 1) := by decide +kernel
theorem dX8_ofSample_32 : decode cX8_ofSample 32 = .ok (.invokevirtual 151, 3) := by decide +kernel
theorem dX8_ofSample_35 : decode cX8_ofSample 35 = .ok (.iload_n 2, 1) := by decide +kernel
theorem dX8_ofSample_36 : decode cX8_ofSample 36 = .ok (.ifCond .ne 10, 3) := by decide +kernel
theorem dX8_ofSample_39 : decode cX8_ofSample 39 = .ok (.aload_n 0, 1) := by decide +kernel
theorem dX8_ofSample_40 : decode cX8_ofSample 40 = .ok (.invokevirtual 154, 3) := by decide +kernel
theorem dX8_ofSample_43 : decode cX8_ofSample 43 = .ok (.goto 19, 3) := by decide +kernel
theorem dX8_ofSample_46 : decode cX8_ofSample 46 = .ok (.iload_n 2, 1) := by decide +kernel
theorem dX8_ofSample_47 : decode cX8_ofSample 47 = .ok (.iconst 1, 1) := by decide +kernel
theorem dX8_ofSample_48 : decode cX8_ofSample 48 = .ok (.if_icmp .ne 10, 3) := by decide +kernel
theorem dX8_ofSample_51 : decode cX8_ofSample 51 = .ok (.aload_n 0, 1) := by decide +kernel
theorem dX8_ofSample_52 : decode cX8_ofSample 52 = .ok (.invokevirtual 188, 3) := by decide +kernel
theorem dX8_ofSample_55 : decode cX8_ofSample 55 = .ok (.goto 7, 3) := by decide +kernel
theorem dX8_ofSample_58 : decode cX8_ofSample 58 = .ok (.aload_n 0, 1) := by decide +kernel
theorem dX8_ofSample_59 : decode cX8_ofSample 59 = .ok (.invokevirtual 93, 3) := by decide +kernel
theorem dX8_ofSample_62 : decode cX8_ofSample 62 = .ok (.lreturn, 1) := by decide +kernel
theorem dX8_best_0 : decode cX8_best 0 = .ok (.aload_n 0, 1) := by decide +kernel
theorem dX8_best_1 : decode cX8_best 1 = .ok (.iconst 0, 1) := by decide +kernel
theorem dX8_best_2 : decode cX8_best 2 = .ok (.putfield 50, 3) := by decide +kernel
theorem dX8_best_5 : decode cX8_best 5 = .ok (.aload_n 0, 1) := by decide +kernel
theorem dX8_best_6 : decode cX8_best 6 = .ok (.iload_n 1, 1) := by decide +kernel
theorem dX8_best_7 : decode cX8_best 7 = .ok (.iload_n 2, 1) := by decide +kernel
theorem dX8_best_8 : decode cX8_best 8 = .ok (.invokevirtual 181, 3) := by decide +kernel
theorem dX8_best_11 : decode cX8_best 11 = .ok (.ifCond .ne 5, 3) := by decide +kernel
theorem dX8_best_14 : decode cX8_best 14 = .ok (.iconst (-1), 1) := by decide +kernel
theorem dX8_best_15 : decode cX8_best 15 = .ok (.ireturn, 1) := by decide +kernel
theorem dX8_best_16 : decode cX8_best 16 = .ok (.aload_n 0, 1) := by decide +kernel
theorem dX8_best_17 : decode cX8_best 17 = .ok (.iload_n 1, 1) := by decide +kernel
theorem dX8_best_18 : decode cX8_best 18 = .ok (.invokevirtual 151, 3) := by decide +kernel
theorem dX8_best_21 : decode cX8_best 21 = .ok (.aload_n 0, 1) := by decide +kernel
theorem dX8_best_22 : decode cX8_best 22 = .ok (.invokevirtual 93, 3) := by decide +kernel
theorem dX8_best_25 : decode cX8_best 25 = .ok (.lconst 0, 1) := by decide +kernel
theorem dX8_best_26 : decode cX8_best 26 = .ok (.lcmp, 1) := by decide +kernel
theorem dX8_best_27 : decode cX8_best 27 = .ok (.ifCond .ne 8, 3) := by decide +kernel
theorem dX8_best_30 : decode cX8_best 30 = .ok (.bipush (-5), 2) := by decide +kernel
theorem dX8_best_32 : decode cX8_best 32 = .ok (.goto 9, 3) := by decide +kernel
theorem dX8_best_35 : decode cX8_best 35 = .ok (.aload_n 0, 1) := by decide +kernel
theorem dX8_best_36 : decode cX8_best 36 = .ok (.iload_n 1, 1) := by decide +kernel
theorem dX8_best_37 : decode cX8_best 37 = .ok (.iload_n 2, 1) := by decide +kernel
theorem dX8_best_38 : decode cX8_best 38 = .ok (.invokevirtual 191, 3) := by decide +kernel
theorem dX8_best_41 : decode cX8_best 41 = .ok (.ireturn, 1) := by decide +kernel
theorem dX8_share_0 : decode cX8_share 0 = .ok (.aload_n 0, 1) := by decide +kernel
theorem dX8_share_1 : decode cX8_share 1 = .ok (.iconst 0, 1) := by decide +kernel
theorem dX8_share_2 : decode cX8_share 2 = .ok (.putfield 50, 3) := by decide +kernel
theorem dX8_share_5 : decode cX8_share 5 = .ok (.aload_n 0, 1) := by decide +kernel
theorem dX8_share_6 : decode cX8_share 6 = .ok (.iload_n 1, 1) := by decide +kernel
theorem dX8_share_7 : decode cX8_share 7 = .ok (.iload_n 2, 1) := by decide +kernel
theorem dX8_share_8 : decode cX8_share 8 = .ok (.invokevirtual 181, 3) := by decide +kernel
theorem dX8_share_11 : decode cX8_share 11 = .ok (.ifCond .eq 11, 3) := by decide +kernel
theorem dX8_share_14 : decode cX8_share 14 = .ok (.aload_n 0, 1) := by decide +kernel
theorem dX8_share_15 : decode cX8_share 15 = .ok (.iload_n 3, 1) := by decide +kernel
theorem dX8_share_16 : decode cX8_share 16 = .ok (.invokevirtual 97, 3) := by decide +kernel
theorem dX8_share_19 : decode cX8_share 19 = .ok (.ifCond .ne 5, 3) := by decide +kernel
theorem dX8_share_22 : decode cX8_share 22 = .ok (.iconst (-1), 1) := by decide +kernel
theorem dX8_share_23 : decode cX8_share 23 = .ok (.ireturn, 1) := by decide +kernel
theorem dX8_share_24 : decode cX8_share 24 = .ok (.aload_n 0, 1) := by decide +kernel
theorem dX8_share_25 : decode cX8_share 25 = .ok (.iload_n 1, 1) := by decide +kernel
theorem dX8_share_26 : decode cX8_share 26 = .ok (.invokevirtual 151, 3) := by decide +kernel
theorem dX8_share_29 : decode cX8_share 29 = .ok (.aload_n 0, 1) := by decide +kernel
theorem dX8_share_30 : decode cX8_share 30 = .ok (.invokevirtual 154, 3) := by decide +kernel
theorem dX8_share_33 : decode cX8_share 33 = .ok (.lconst 0, 1) := by decide +kernel
theorem dX8_share_34 : decode cX8_share 34 = .ok (.lcmp, 1) := by decide +kernel
theorem dX8_share_35 : decode cX8_share 35 = .ok (.ifCond .ne 8, 3) := by decide +kernel
theorem dX8_share_38 : decode cX8_share 38 = .ok (.bipush (-5), 2) := by decide +kernel
theorem dX8_share_40 : decode cX8_share 40 = .ok (.goto 16, 3) := by decide +kernel
theorem dX8_share_43 : decode cX8_share 43 = .ok (.aload_n 0, 1) := by decide +kernel
theorem dX8_share_44 : decode cX8_share 44 = .ok (.iload_n 2, 1) := by decide +kernel
theorem dX8_share_45 : decode cX8_share 45 = .ok (.iload_n 3, 1) := by decide +kernel
theorem dX8_share_46 : decode cX8_share 46 = .ok (.invokevirtual 87, 3) := by decide +kernel
theorem dX8_share_49 : decode cX8_share 49 = .ok (.aload_n 0, 1) := by decide +kernel
theorem dX8_share_50 : decode cX8_share 50 = .ok (.invokevirtual 154, 3) := by decide +kernel
theorem dX8_share_53 : decode cX8_share 53 = .ok (.invokestatic 143, 3) := by decide +kernel
theorem dX8_share_56 : decode cX8_share 56 = .ok (.ireturn, 1) := by decide +kernel
theorem dX8_likeliest_0 : decode cX8_likeliest 0 = .ok (.aload_n 0, 1) := by decide +kernel
theorem dX8_likeliest_1 : decode cX8_likeliest 1 = .ok (.iconst 0, 1) := by decide +kernel
theorem dX8_likeliest_2 : decode cX8_likeliest 2 = .ok (.putfield 50, 3) := by decide +kernel
theorem dX8_likeliest_5 : decode cX8_likeliest 5 = .ok (.aload_n 0, 1) := by decide +kernel
theorem dX8_likeliest_6 : decode cX8_likeliest 6 = .ok (.iload_n 1, 1) := by decide +kernel
theorem dX8_likeliest_7 : decode cX8_likeliest 7 = .ok (.iload_n 2, 1) := by decide +kernel
theorem dX8_likeliest_8 : decode cX8_likeliest 8 = .ok (.invokevirtual 181, 3) := by decide +kernel
theorem dX8_likeliest_11 : decode cX8_likeliest 11 = .ok (.ifCond .ne 5, 3) := by decide +kernel
theorem dX8_likeliest_14 : decode cX8_likeliest 14 = .ok (.iconst (-1), 1) := by decide +kernel
theorem dX8_likeliest_15 : decode cX8_likeliest 15 = .ok (.ireturn, 1) := by decide +kernel
theorem dX8_likeliest_16 : decode cX8_likeliest 16 = .ok (.aload_n 0, 1) := by decide +kernel
theorem dX8_likeliest_17 : decode cX8_likeliest 17 = .ok (.iload_n 1, 1) := by decide +kernel
theorem dX8_likeliest_18 : decode cX8_likeliest 18 = .ok (.invokevirtual 151, 3) := by decide +kernel
theorem dX8_likeliest_21 : decode cX8_likeliest 21 = .ok (.aload_n 0, 1) := by decide +kernel
theorem dX8_likeliest_22 : decode cX8_likeliest 22 = .ok (.invokevirtual 154, 3) := by decide +kernel
theorem dX8_likeliest_25 : decode cX8_likeliest 25 = .ok (.lconst 0, 1) := by decide +kernel
theorem dX8_likeliest_26 : decode cX8_likeliest 26 = .ok (.lcmp, 1) := by decide +kernel
theorem dX8_likeliest_27 : decode cX8_likeliest 27 = .ok (.ifCond .ne 8, 3) := by decide +kernel
theorem dX8_likeliest_30 : decode cX8_likeliest 30 = .ok (.bipush (-5), 2) := by decide +kernel
theorem dX8_likeliest_32 : decode cX8_likeliest 32 = .ok (.goto 8, 3) := by decide +kernel
theorem dX8_likeliest_35 : decode cX8_likeliest 35 = .ok (.aload_n 0, 1) := by decide +kernel
theorem dX8_likeliest_36 : decode cX8_likeliest 36 = .ok (.iload_n 2, 1) := by decide +kernel
theorem dX8_likeliest_37 : decode cX8_likeliest 37 = .ok (.invokevirtual 194, 3) := by decide +kernel
theorem dX8_likeliest_40 : decode cX8_likeliest 40 = .ok (.ireturn, 1) := by decide +kernel
theorem dX8_doubts_0 : decode cX8_doubts 0 = .ok (.aload_n 0, 1) := by decide +kernel
theorem dX8_doubts_1 : decode cX8_doubts 1 = .ok (.iload_n 1, 1) := by decide +kernel
theorem dX8_doubts_2 : decode cX8_doubts 2 = .ok (.invokevirtual 151, 3) := by decide +kernel
theorem dX8_doubts_5 : decode cX8_doubts 5 = .ok (.aload_n 0, 1) := by decide +kernel
theorem dX8_doubts_6 : decode cX8_doubts 6 = .ok (.invokevirtual 154, 3) := by decide +kernel
theorem dX8_doubts_9 : decode cX8_doubts 9 = .ok (.lstore_n 2, 1) := by decide +kernel
theorem dX8_doubts_10 : decode cX8_doubts 10 = .ok (.iconst 0, 1) := by decide +kernel
theorem dX8_doubts_11 : decode cX8_doubts 11 = .ok (.istore 4, 2) := by decide +kernel
theorem dX8_doubts_13 : decode cX8_doubts 13 = .ok (.iconst 0, 1) := by decide +kernel
theorem dX8_doubts_14 : decode cX8_doubts 14 = .ok (.istore 5, 2) := by decide +kernel
theorem dX8_doubts_16 : decode cX8_doubts 16 = .ok (.iload 5, 2) := by decide +kernel
theorem dX8_doubts_18 : decode cX8_doubts 18 = .ok (.aload_n 0, 1) := by decide +kernel
theorem dX8_doubts_19 : decode cX8_doubts 19 = .ok (.iload_n 1, 1) := by decide +kernel
theorem dX8_doubts_20 : decode cX8_doubts 20 = .ok (.invokevirtual 65, 3) := by decide +kernel
theorem dX8_doubts_23 : decode cX8_doubts 23 = .ok (.if_icmp .ge 53, 3) := by decide +kernel
theorem dX8_doubts_26 : decode cX8_doubts 26 = .ok (.lload_n 2, 1) := by decide +kernel
theorem dX8_doubts_27 : decode cX8_doubts 27 = .ok (.lconst 0, 1) := by decide +kernel
theorem dX8_doubts_28 : decode cX8_doubts 28 = .ok (.lcmp, 1) := by decide +kernel
theorem dX8_doubts_29 : decode cX8_doubts 29 = .ok (.ifCond .le 47, 3) := by decide +kernel
theorem dX8_doubts_32 : decode cX8_doubts 32 = .ok (.iload 4, 2) := by decide +kernel
theorem dX8_doubts_34 : decode cX8_doubts 34 = .ok (.aload_n 0, 1) := by decide +kernel
theorem dX8_doubts_35 : decode cX8_doubts 35 = .ok (.iload 5, 2) := by decide +kernel
theorem dX8_doubts_37 : decode cX8_doubts 37 = .ok (.aload_n 0, 1) := by decide +kernel
theorem dX8_doubts_38 : decode cX8_doubts 38 = .ok (.iload 5, 2) := by decide +kernel
theorem dX8_doubts_40 : decode cX8_doubts 40 = .ok (.invokevirtual 194, 3) := by decide +kernel
theorem dX8_doubts_43 : decode cX8_doubts 43 = .ok (.invokevirtual 87, 3) := by decide +kernel
theorem dX8_doubts_46 : decode cX8_doubts 46 = .ok (.lload_n 2, 1) := by decide +kernel
theorem dX8_doubts_47 : decode cX8_doubts 47 = .ok (.invokestatic 143, 3) := by decide +kernel
theorem dX8_doubts_50 : decode cX8_doubts 50 = .ok (.aload_n 0, 1) := by decide +kernel
theorem dX8_doubts_51 : decode cX8_doubts 51 = .ok (.getfield 7, 3) := by decide +kernel
theorem dX8_doubts_54 : decode cX8_doubts 54 = .ok (.iconst 2, 1) := by decide +kernel
theorem dX8_doubts_55 : decode cX8_doubts 55 = .ok (.iaload, 1) := by decide +kernel
theorem dX8_doubts_56 : decode cX8_doubts 56 = .ok (.if_icmp .ge 10, 3) := by decide +kernel
theorem dX8_doubts_59 : decode cX8_doubts 59 = .ok (.iconst 1, 1) := by decide +kernel
theorem dX8_doubts_60 : decode cX8_doubts 60 = .ok (.iload 5, 2) := by decide +kernel
theorem dX8_doubts_62 : decode cX8_doubts 62 = .ok (.ishl, 1) := by decide +kernel
theorem dX8_doubts_63 : decode cX8_doubts 63 = .ok (.goto 4, 3) := by decide +kernel
theorem dX8_doubts_66 : decode cX8_doubts 66 = .ok (.iconst 0, 1) := by decide +kernel
theorem dX8_doubts_67 : decode cX8_doubts 67 = .ok (.ior, 1) := by decide +kernel
theorem dX8_doubts_68 : decode cX8_doubts 68 = .ok (.istore 4, 2) := by decide +kernel
theorem dX8_doubts_70 : decode cX8_doubts 70 = .ok (.iinc 5 1, 3) := by decide +kernel
theorem dX8_doubts_73 : decode cX8_doubts 73 = .ok (.goto (-57), 3) := by decide +kernel
theorem dX8_doubts_76 : decode cX8_doubts 76 = .ok (.iload 4, 2) := by decide +kernel
theorem dX8_doubts_78 : decode cX8_doubts 78 = .ok (.ireturn, 1) := by decide +kernel
theorem dX8_doubtful_0 : decode cX8_doubtful 0 = .ok (.aload_n 0, 1) := by decide +kernel
theorem dX8_doubtful_1 : decode cX8_doubtful 1 = .ok (.iconst 0, 1) := by decide +kernel
theorem dX8_doubtful_2 : decode cX8_doubtful 2 = .ok (.putfield 50, 3) := by decide +kernel
theorem dX8_doubtful_5 : decode cX8_doubtful 5 = .ok (.aload_n 0, 1) := by decide +kernel
theorem dX8_doubtful_6 : decode cX8_doubtful 6 = .ok (.iload_n 1, 1) := by decide +kernel
theorem dX8_doubtful_7 : decode cX8_doubtful 7 = .ok (.invokevirtual 140, 3) := by decide +kernel
theorem dX8_doubtful_10 : decode cX8_doubtful 10 = .ok (.ifCond .eq 11, 3) := by decide +kernel
theorem dX8_doubtful_13 : decode cX8_doubtful 13 = .ok (.aload_n 0, 1) := by decide +kernel
theorem dX8_doubtful_14 : decode cX8_doubtful 14 = .ok (.iload_n 1, 1) := by decide +kernel
theorem dX8_doubtful_15 : decode cX8_doubtful 15 = .ok (.invokevirtual 197, 3) := by decide +kernel
theorem dX8_doubtful_18 : decode cX8_doubtful 18 = .ok (.goto 4, 3) := by decide +kernel
theorem dX8_doubtful_21 : decode cX8_doubtful 21 = .ok (.iconst (-1), 1) := by decide +kernel
theorem dX8_doubtful_22 : decode cX8_doubtful 22 = .ok (.ireturn, 1) := by decide +kernel
theorem dX8_run_0 : decode cX8_run 0 = .ok (.aload_n 0, 1) := by decide +kernel
theorem dX8_run_1 : decode cX8_run 1 = .ok (.iconst 0, 1) := by decide +kernel
theorem dX8_run_2 : decode cX8_run 2 = .ok (.putfield 50, 3) := by decide +kernel
theorem dX8_run_5 : decode cX8_run 5 = .ok (.aload_n 0, 1) := by decide +kernel
theorem dX8_run_6 : decode cX8_run 6 = .ok (.iload_n 1, 1) := by decide +kernel
theorem dX8_run_7 : decode cX8_run 7 = .ok (.iload_n 3, 1) := by decide +kernel
theorem dX8_run_8 : decode cX8_run 8 = .ok (.invokevirtual 181, 3) := by decide +kernel
theorem dX8_run_11 : decode cX8_run 11 = .ok (.ifCond .ne 5, 3) := by decide +kernel
theorem dX8_run_14 : decode cX8_run 14 = .ok (.iconst (-1), 1) := by decide +kernel
theorem dX8_run_15 : decode cX8_run 15 = .ok (.ireturn, 1) := by decide +kernel
theorem dX8_run_16 : decode cX8_run 16 = .ok (.iload_n 2, 1) := by decide +kernel
theorem dX8_run_17 : decode cX8_run 17 = .ok (.ifCond .ge 6, 3) := by decide +kernel
theorem dX8_run_20 : decode cX8_run 20 = .ok (.bipush (-2), 2) := by decide +kernel
theorem dX8_run_22 : decode cX8_run 22 = .ok (.ireturn, 1) := by decide +kernel
theorem dX8_run_23 : decode cX8_run 23 = .ok (.aload_n 0, 1) := by decide +kernel
theorem dX8_run_24 : decode cX8_run 24 = .ok (.iload_n 1, 1) := by decide +kernel
theorem dX8_run_25 : decode cX8_run 25 = .ok (.invokevirtual 151, 3) := by decide +kernel
theorem dX8_run_28 : decode cX8_run 28 = .ok (.iload_n 2, 1) := by decide +kernel
theorem dX8_run_29 : decode cX8_run 29 = .ok (.i2l, 1) := by decide +kernel
theorem dX8_run_30 : decode cX8_run 30 = .ok (.aload_n 0, 1) := by decide +kernel
theorem dX8_run_31 : decode cX8_run 31 = .ok (.invokevirtual 188, 3) := by decide +kernel
theorem dX8_run_34 : decode cX8_run 34 = .ok (.lcmp, 1) := by decide +kernel
theorem dX8_run_35 : decode cX8_run 35 = .ok (.ifCond .ge 13, 3) := by decide +kernel
theorem dX8_run_38 : decode cX8_run 38 = .ok (.aload_n 0, 1) := by decide +kernel
theorem dX8_run_39 : decode cX8_run 39 = .ok (.iload_n 1, 1) := by decide +kernel
theorem dX8_run_40 : decode cX8_run 40 = .ok (.iload_n 2, 1) := by decide +kernel
theorem dX8_run_41 : decode cX8_run 41 = .ok (.iload_n 3, 1) := by decide +kernel
theorem dX8_run_42 : decode cX8_run 42 = .ok (.invokevirtual 200, 3) := by decide +kernel
theorem dX8_run_45 : decode cX8_run 45 = .ok (.goto 5, 3) := by decide +kernel
theorem dX8_run_48 : decode cX8_run 48 = .ok (.bipush (-5), 2) := by decide +kernel
theorem dX8_run_50 : decode cX8_run 50 = .ok (.ireturn, 1) := by decide +kernel
theorem dX8_weightOfNext_0 : decode cX8_weightOfNext 0 = .ok (.lconst 0, 1) := by decide +kernel
theorem dX8_weightOfNext_1 : decode cX8_weightOfNext 1 = .ok (.lstore_n 3, 1) := by decide +kernel
theorem dX8_weightOfNext_2 : decode cX8_weightOfNext 2 = .ok (.aload_n 0, 1) := by decide +kernel
theorem dX8_weightOfNext_3 : decode cX8_weightOfNext 3 = .ok (.iload_n 1, 1) := by decide +kernel
theorem dX8_weightOfNext_4 : decode cX8_weightOfNext 4 = .ok (.invokevirtual 65, 3) := by decide +kernel
theorem dX8_weightOfNext_7 : decode cX8_weightOfNext 7 = .ok (.iconst 1, 1) := by decide +kernel
theorem dX8_weightOfNext_8 : decode cX8_weightOfNext 8 = .ok (.isub, 1) := by decide +kernel
theorem dX8_weightOfNext_9 : decode cX8_weightOfNext 9 = .ok (.istore 5, 2) := by decide +kernel
theorem dX8_weightOfNext_11 : decode cX8_weightOfNext 11 = .ok (.iconst 0, 1) := by decide +kernel
theorem dX8_weightOfNext_12 : decode cX8_weightOfNext 12 = .ok (.istore 6, 2) := by decide +kernel
theorem dX8_weightOfNext_14 : decode cX8_weightOfNext 14 = .ok (.iload 6, 2) := by decide +kernel
theorem dX8_weightOfNext_16 : decode cX8_weightOfNext 16 = .ok (.aload_n 0, 1) := by decide +kernel
theorem dX8_weightOfNext_17 : decode cX8_weightOfNext 17 = .ok (.getfield 7, 3) := by decide +kernel
theorem dX8_weightOfNext_20 : decode cX8_weightOfNext 20 = .ok (.iconst 0, 1) := by decide +kernel
theorem dX8_weightOfNext_21 : decode cX8_weightOfNext 21 = .ok (.iaload, 1) := by decide +kernel
theorem dX8_weightOfNext_22 : decode cX8_weightOfNext 22 = .ok (.if_icmp .ge 63, 3) := by decide +kernel
theorem dX8_weightOfNext_25 : decode cX8_weightOfNext 25 = .ok (.iconst 0, 1) := by decide +kernel
theorem dX8_weightOfNext_26 : decode cX8_weightOfNext 26 = .ok (.istore 7, 2) := by decide +kernel
theorem dX8_weightOfNext_28 : decode cX8_weightOfNext 28 = .ok (.iload 7, 2) := by decide +kernel
theorem dX8_weightOfNext_30 : decode cX8_weightOfNext 30 = .ok (.aload_n 0, 1) := by decide +kernel
theorem dX8_weightOfNext_31 : decode cX8_weightOfNext 31 = .ok (.getfield 7, 3) := by decide +kernel
theorem dX8_weightOfNext_34 : decode cX8_weightOfNext 34 = .ok (.iconst 0, 1) := by decide +kernel
theorem dX8_weightOfNext_35 : decode cX8_weightOfNext 35 = .ok (.iaload, 1) := by decide +kernel
theorem dX8_weightOfNext_36 : decode cX8_weightOfNext 36 = .ok (.if_icmp .ge 43, 3) := by decide +kernel
theorem dX8_weightOfNext_39 : decode cX8_weightOfNext 39 = .ok (.lload_n 3, 1) := by decide +kernel
theorem dX8_weightOfNext_40 : decode cX8_weightOfNext 40 = .ok (.aload_n 0, 1) := by decide +kernel
theorem dX8_weightOfNext_41 : decode cX8_weightOfNext 41 = .ok (.getfield 25, 3) := by decide +kernel
theorem dX8_weightOfNext_44 : decode cX8_weightOfNext 44 = .ok (.iconst 4, 1) := by decide +kernel
theorem dX8_weightOfNext_45 : decode cX8_weightOfNext 45 = .ok (.iload 5, 2) := by decide +kernel
theorem dX8_weightOfNext_47 : decode cX8_weightOfNext 47 = .ok (.imul, 1) := by decide +kernel
theorem dX8_weightOfNext_48 : decode cX8_weightOfNext 48 = .ok (.iload 6, 2) := by decide +kernel
theorem dX8_weightOfNext_50 : decode cX8_weightOfNext 50 = .ok (.iadd, 1) := by decide +kernel
theorem dX8_weightOfNext_51 : decode cX8_weightOfNext 51 = .ok (.laload, 1) := by decide +kernel
theorem dX8_weightOfNext_52 : decode cX8_weightOfNext 52 = .ok (.aload_n 0, 1) := by decide +kernel
theorem dX8_weightOfNext_53 : decode cX8_weightOfNext 53 = .ok (.iload 6, 2) := by decide +kernel
theorem dX8_weightOfNext_55 : decode cX8_weightOfNext 55 = .ok (.iload 7, 2) := by decide +kernel
theorem dX8_weightOfNext_57 : decode cX8_weightOfNext 57 = .ok (.invokevirtual 76, 3) := by decide +kernel
theorem dX8_weightOfNext_60 : decode cX8_weightOfNext 60 = .ok (.i2l, 1) := by decide +kernel
theorem dX8_weightOfNext_61 : decode cX8_weightOfNext 61 = .ok (.lmul, 1) := by decide +kernel
theorem dX8_weightOfNext_62 : decode cX8_weightOfNext 62 = .ok (.aload_n 0, 1) := by decide +kernel
theorem dX8_weightOfNext_63 : decode cX8_weightOfNext 63 = .ok (.iload 7, 2) := by decide +kernel
theorem dX8_weightOfNext_65 : decode cX8_weightOfNext 65 = .ok (.iload_n 2, 1) := by decide +kernel
theorem dX8_weightOfNext_66 : decode cX8_weightOfNext 66 = .ok (.invokevirtual 73, 3) := by decide +kernel
theorem dX8_weightOfNext_69 : decode cX8_weightOfNext 69 = .ok (.i2l, 1) := by decide +kernel
theorem dX8_weightOfNext_70 : decode cX8_weightOfNext 70 = .ok (.lmul, 1) := by decide +kernel
theorem dX8_weightOfNext_71 : decode cX8_weightOfNext 71 = .ok (.ladd, 1) := by decide +kernel
theorem dX8_weightOfNext_72 : decode cX8_weightOfNext 72 = .ok (.lstore_n 3, 1) := by decide +kernel
theorem dX8_weightOfNext_73 : decode cX8_weightOfNext 73 = .ok (.iinc 7 1, 3) := by decide +kernel
theorem dX8_weightOfNext_76 : decode cX8_weightOfNext 76 = .ok (.goto (-48), 3) := by decide +kernel
theorem dX8_weightOfNext_79 : decode cX8_weightOfNext 79 = .ok (.iinc 6 1, 3) := by decide +kernel
theorem dX8_weightOfNext_82 : decode cX8_weightOfNext 82 = .ok (.goto (-68), 3) := by decide +kernel
theorem dX8_weightOfNext_85 : decode cX8_weightOfNext 85 = .ok (.lload_n 3, 1) := by decide +kernel
theorem dX8_weightOfNext_86 : decode cX8_weightOfNext 86 = .ok (.lreturn, 1) := by decide +kernel
theorem dX8_next_0 : decode cX8_next 0 = .ok (.aload_n 0, 1) := by decide +kernel
theorem dX8_next_1 : decode cX8_next 1 = .ok (.iconst 0, 1) := by decide +kernel
theorem dX8_next_2 : decode cX8_next 2 = .ok (.putfield 50, 3) := by decide +kernel
theorem dX8_next_5 : decode cX8_next 5 = .ok (.aload_n 0, 1) := by decide +kernel
theorem dX8_next_6 : decode cX8_next 6 = .ok (.iload_n 1, 1) := by decide +kernel
theorem dX8_next_7 : decode cX8_next 7 = .ok (.invokevirtual 140, 3) := by decide +kernel
theorem dX8_next_10 : decode cX8_next 10 = .ok (.ifCond .eq 12, 3) := by decide +kernel
theorem dX8_next_13 : decode cX8_next 13 = .ok (.iload_n 2, 1) := by decide +kernel
theorem dX8_next_14 : decode cX8_next 14 = .ok (.iconst 0, 1) := by decide +kernel
theorem dX8_next_15 : decode cX8_next 15 = .ok (.iconst 2, 1) := by decide +kernel
theorem dX8_next_16 : decode cX8_next 16 = .ok (.invokestatic 58, 3) := by decide +kernel
theorem dX8_next_19 : decode cX8_next 19 = .ok (.ifCond .ne 5, 3) := by decide +kernel
theorem dX8_next_22 : decode cX8_next 22 = .ok (.iconst (-1), 1) := by decide +kernel
theorem dX8_next_23 : decode cX8_next 23 = .ok (.ireturn, 1) := by decide +kernel
theorem dX8_next_24 : decode cX8_next 24 = .ok (.aload_n 0, 1) := by decide +kernel
theorem dX8_next_25 : decode cX8_next 25 = .ok (.iload_n 1, 1) := by decide +kernel
theorem dX8_next_26 : decode cX8_next 26 = .ok (.invokevirtual 151, 3) := by decide +kernel
theorem dX8_next_29 : decode cX8_next 29 = .ok (.aload_n 0, 1) := by decide +kernel
theorem dX8_next_30 : decode cX8_next 30 = .ok (.iload_n 1, 1) := by decide +kernel
theorem dX8_next_31 : decode cX8_next 31 = .ok (.iconst 0, 1) := by decide +kernel
theorem dX8_next_32 : decode cX8_next 32 = .ok (.invokevirtual 203, 3) := by decide +kernel
theorem dX8_next_35 : decode cX8_next 35 = .ok (.aload_n 0, 1) := by decide +kernel
theorem dX8_next_36 : decode cX8_next 36 = .ok (.iload_n 1, 1) := by decide +kernel
theorem dX8_next_37 : decode cX8_next 37 = .ok (.iconst 1, 1) := by decide +kernel
theorem dX8_next_38 : decode cX8_next 38 = .ok (.invokevirtual 203, 3) := by decide +kernel
theorem dX8_next_41 : decode cX8_next 41 = .ok (.ladd, 1) := by decide +kernel
theorem dX8_next_42 : decode cX8_next 42 = .ok (.aload_n 0, 1) := by decide +kernel
theorem dX8_next_43 : decode cX8_next 43 = .ok (.iload_n 1, 1) := by decide +kernel
theorem dX8_next_44 : decode cX8_next 44 = .ok (.iconst 2, 1) := by decide +kernel
theorem dX8_next_45 : decode cX8_next 45 = .ok (.invokevirtual 203, 3) := by decide +kernel
theorem dX8_next_48 : decode cX8_next 48 = .ok (.ladd, 1) := by decide +kernel
theorem dX8_next_49 : decode cX8_next 49 = .ok (.lstore_n 3, 1) := by decide +kernel
theorem dX8_next_50 : decode cX8_next 50 = .ok (.lload_n 3, 1) := by decide +kernel
theorem dX8_next_51 : decode cX8_next 51 = .ok (.lconst 0, 1) := by decide +kernel
theorem dX8_next_52 : decode cX8_next 52 = .ok (.lcmp, 1) := by decide +kernel
theorem dX8_next_53 : decode cX8_next 53 = .ok (.ifCond .ne 8, 3) := by decide +kernel
theorem dX8_next_56 : decode cX8_next 56 = .ok (.bipush (-5), 2) := by decide +kernel
theorem dX8_next_58 : decode cX8_next 58 = .ok (.goto 13, 3) := by decide +kernel
theorem dX8_next_61 : decode cX8_next 61 = .ok (.aload_n 0, 1) := by decide +kernel
theorem dX8_next_62 : decode cX8_next 62 = .ok (.iload_n 1, 1) := by decide +kernel
theorem dX8_next_63 : decode cX8_next 63 = .ok (.iload_n 2, 1) := by decide +kernel
theorem dX8_next_64 : decode cX8_next 64 = .ok (.invokevirtual 203, 3) := by decide +kernel
theorem dX8_next_67 : decode cX8_next 67 = .ok (.lload_n 3, 1) := by decide +kernel
theorem dX8_next_68 : decode cX8_next 68 = .ok (.invokestatic 143, 3) := by decide +kernel
theorem dX8_next_71 : decode cX8_next 71 = .ok (.ireturn, 1) := by decide +kernel
theorem dX8_signs_0 : decode cX8_signs 0 = .ok (.iconst 0, 1) := by decide +kernel
theorem dX8_signs_1 : decode cX8_signs 1 = .ok (.istore_n 1, 1) := by decide +kernel
theorem dX8_signs_2 : decode cX8_signs 2 = .ok (.iconst 0, 1) := by decide +kernel
theorem dX8_signs_3 : decode cX8_signs 3 = .ok (.istore_n 2, 1) := by decide +kernel
theorem dX8_signs_4 : decode cX8_signs 4 = .ok (.iload_n 2, 1) := by decide +kernel
theorem dX8_signs_5 : decode cX8_signs 5 = .ok (.aload_n 0, 1) := by decide +kernel
theorem dX8_signs_6 : decode cX8_signs 6 = .ok (.getfield 7, 3) := by decide +kernel
theorem dX8_signs_9 : decode cX8_signs 9 = .ok (.iconst 1, 1) := by decide +kernel
theorem dX8_signs_10 : decode cX8_signs 10 = .ok (.iaload, 1) := by decide +kernel
theorem dX8_signs_11 : decode cX8_signs 11 = .ok (.if_icmp .ge 17, 3) := by decide +kernel
theorem dX8_signs_14 : decode cX8_signs 14 = .ok (.iload_n 1, 1) := by decide +kernel
theorem dX8_signs_15 : decode cX8_signs 15 = .ok (.aload_n 0, 1) := by decide +kernel
theorem dX8_signs_16 : decode cX8_signs 16 = .ok (.iload_n 2, 1) := by decide +kernel
theorem dX8_signs_17 : decode cX8_signs 17 = .ok (.invokevirtual 65, 3) := by decide +kernel
theorem dX8_signs_20 : decode cX8_signs 20 = .ok (.iadd, 1) := by decide +kernel
theorem dX8_signs_21 : decode cX8_signs 21 = .ok (.istore_n 1, 1) := by decide +kernel
theorem dX8_signs_22 : decode cX8_signs 22 = .ok (.iinc 2 1, 3) := by decide +kernel
theorem dX8_signs_25 : decode cX8_signs 25 = .ok (.goto (-21), 3) := by decide +kernel
theorem dX8_signs_28 : decode cX8_signs 28 = .ok (.iload_n 1, 1) := by decide +kernel
theorem dX8_signs_29 : decode cX8_signs 29 = .ok (.ireturn, 1) := by decide +kernel
theorem dX8_overSamples_0 : decode cX8_overSamples 0 = .ok (.iconst 0, 1) := by decide +kernel
theorem dX8_overSamples_1 : decode cX8_overSamples 1 = .ok (.istore_n 2, 1) := by decide +kernel
theorem dX8_overSamples_2 : decode cX8_overSamples 2 = .ok (.iconst 0, 1) := by decide +kernel
theorem dX8_overSamples_3 : decode cX8_overSamples 3 = .ok (.istore_n 3, 1) := by decide +kernel
theorem dX8_overSamples_4 : decode cX8_overSamples 4 = .ok (.iload_n 3, 1) := by decide +kernel
theorem dX8_overSamples_5 : decode cX8_overSamples 5 = .ok (.aload_n 0, 1) := by decide +kernel
theorem dX8_overSamples_6 : decode cX8_overSamples 6 = .ok (.getfield 7, 3) := by decide +kernel
theorem dX8_overSamples_9 : decode cX8_overSamples 9 = .ok (.iconst 1, 1) := by decide +kernel
theorem dX8_overSamples_10 : decode cX8_overSamples 10 = .ok (.iaload, 1) := by decide +kernel
theorem dX8_overSamples_11 : decode cX8_overSamples 11 = .ok (.if_icmp .ge 119, 3) := by decide +kernel
theorem dX8_overSamples_14 : decode cX8_overSamples 14 = .ok (.aload_n 0, 1) := by decide +kernel
theorem dX8_overSamples_15 : decode cX8_overSamples 15 = .ok (.iload_n 3, 1) := by decide +kernel
theorem dX8_overSamples_16 : decode cX8_overSamples 16 = .ok (.invokevirtual 197, 3) := by decide +kernel
theorem dX8_overSamples_19 : decode cX8_overSamples 19 = .ok (.istore 4, 2) := by decide +kernel
theorem dX8_overSamples_21 : decode cX8_overSamples 21 = .ok (.aload_n 0, 1) := by decide +kernel
theorem dX8_overSamples_22 : decode cX8_overSamples 22 = .ok (.invokevirtual 154, 3) := by decide +kernel
theorem dX8_overSamples_25 : decode cX8_overSamples 25 = .ok (.lconst 0, 1) := by decide +kernel
theorem dX8_overSamples_26 : decode cX8_overSamples 26 = .ok (.lcmp, 1) := by decide +kernel
theorem dX8_overSamples_27 : decode cX8_overSamples 27 = .ok (.ifCond .ne 7, 3) := by decide +kernel
theorem dX8_overSamples_30 : decode cX8_overSamples 30 = .ok (.iconst 1, 1) := by decide +kernel
theorem dX8_overSamples_31 : decode cX8_overSamples 31 = .ok (.goto 4, 3) := by decide +kernel
theorem dX8_overSamples_34 : decode cX8_overSamples 34 = .ok (.iconst 0, 1) := by decide +kernel
theorem dX8_overSamples_35 : decode cX8_overSamples 35 = .ok (.istore 5, 2) := by decide +kernel
theorem dX8_overSamples_37 : decode cX8_overSamples 37 = .ok (.iload_n 2, 1) := by decide +kernel
theorem dX8_overSamples_38 : decode cX8_overSamples 38 = .ok (.iload_n 1, 1) := by decide +kernel
theorem dX8_overSamples_39 : decode cX8_overSamples 39 = .ok (.iconst 5, 1) := by decide +kernel
theorem dX8_overSamples_40 : decode cX8_overSamples 40 = .ok (.if_icmp .ne 12, 3) := by decide +kernel
theorem dX8_overSamples_43 : decode cX8_overSamples 43 = .ok (.iload 5, 2) := by decide +kernel
theorem dX8_overSamples_45 : decode cX8_overSamples 45 = .ok (.ifCond .eq 7, 3) := by decide +kernel
theorem dX8_overSamples_48 : decode cX8_overSamples 48 = .ok (.iconst 1, 1) := by decide +kernel
theorem dX8_overSamples_49 : decode cX8_overSamples 49 = .ok (.goto 4, 3) := by decide +kernel
theorem dX8_overSamples_52 : decode cX8_overSamples 52 = .ok (.iconst 0, 1) := by decide +kernel
theorem dX8_overSamples_53 : decode cX8_overSamples 53 = .ok (.iadd, 1) := by decide +kernel
theorem dX8_overSamples_54 : decode cX8_overSamples 54 = .ok (.istore_n 2, 1) := by decide +kernel
theorem dX8_overSamples_55 : decode cX8_overSamples 55 = .ok (.iconst 0, 1) := by decide +kernel
theorem dX8_overSamples_56 : decode cX8_overSamples 56 = .ok (.istore 6, 2) := by decide +kernel
theorem dX8_overSamples_58 : decode cX8_overSamples 58 = .ok (.iload 6, 2) := by decide +kernel
theorem dX8_overSamples_60 : decode cX8_overSamples 60 = .ok (.aload_n 0, 1) := by decide +kernel
theorem dX8_overSamples_61 : decode cX8_overSamples 61 = .ok (.iload_n 3, 1) := by decide +kernel
theorem dX8_overSamples_62 : decode cX8_overSamples 62 = .ok (.invokevirtual 65, 3) := by decide +kernel
theorem dX8_overSamples_65 : decode cX8_overSamples 65 = .ok (.if_icmp .ge 59, 3) := by decide +kernel
theorem dX8_overSamples_68 : decode cX8_overSamples 68 = .ok (.iload_n 2, 1) := by decide +kernel
theorem dX8_overSamples_69 : decode cX8_overSamples 69 = .ok (.iload_n 1, 1) := by decide +kernel
theorem dX8_overSamples_70 : decode cX8_overSamples 70 = .ok (.iconst 4, 1) := by decide +kernel
theorem dX8_overSamples_71 : decode cX8_overSamples 71 = .ok (.if_icmp .ne 13, 3) := by decide +kernel
theorem dX8_overSamples_74 : decode cX8_overSamples 74 = .ok (.iload 4, 2) := by decide +kernel
theorem dX8_overSamples_76 : decode cX8_overSamples 76 = .ok (.iload 6, 2) := by decide +kernel
theorem dX8_overSamples_78 : decode cX8_overSamples 78 = .ok (.ishr, 1) := by decide +kernel
theorem dX8_overSamples_79 : decode cX8_overSamples 79 = .ok (.iconst 1, 1) := by decide +kernel
theorem dX8_overSamples_80 : decode cX8_overSamples 80 = .ok (.iand, 1) := by decide +kernel
theorem dX8_overSamples_81 : decode cX8_overSamples 81 = .ok (.goto 35, 3) := by decide +kernel
theorem dX8_overSamples_84 : decode cX8_overSamples 84 = .ok (.iload_n 1, 1) := by decide +kernel
theorem dX8_overSamples_85 : decode cX8_overSamples 85 = .ok (.bipush 6, 2) := by decide +kernel
theorem dX8_overSamples_87 : decode cX8_overSamples 87 = .ok (.if_icmp .ne 28, 3) := by decide +kernel
theorem dX8_overSamples_90 : decode cX8_overSamples 90 = .ok (.iload 5, 2) := by decide +kernel
theorem dX8_overSamples_92 : decode cX8_overSamples 92 = .ok (.ifCond .ne 23, 3) := by decide +kernel
theorem dX8_overSamples_95 : decode cX8_overSamples 95 = .ok (.aload_n 0, 1) := by decide +kernel
theorem dX8_overSamples_96 : decode cX8_overSamples 96 = .ok (.iload_n 3, 1) := by decide +kernel
theorem dX8_overSamples_97 : decode cX8_overSamples 97 = .ok (.iload 6, 2) := by decide +kernel
theorem dX8_overSamples_99 : decode cX8_overSamples 99 = .ok (.invokevirtual 191, 3) := by decide +kernel
theorem dX8_overSamples_102 : decode cX8_overSamples 102 = .ok (.aload_n 0, 1) := by decide +kernel
theorem dX8_overSamples_103 : decode cX8_overSamples 103 = .ok (.iload 6, 2) := by decide +kernel
theorem dX8_overSamples_105 : decode cX8_overSamples 105 = .ok (.invokevirtual 194, 3) := by decide +kernel
theorem dX8_overSamples_108 : decode cX8_overSamples 108 = .ok (.if_icmp .eq 7, 3) := by decide +kernel
theorem dX8_overSamples_111 : decode cX8_overSamples 111 = .ok (.iconst 1, 1) := by decide +kernel
theorem dX8_overSamples_112 : decode cX8_overSamples 112 = .ok (.goto 4, 3) := by decide +kernel
theorem dX8_overSamples_115 : decode cX8_overSamples 115 = .ok (.iconst 0, 1) := by decide +kernel
theorem dX8_overSamples_116 : decode cX8_overSamples 116 = .ok (.iadd, 1) := by decide +kernel
theorem dX8_overSamples_117 : decode cX8_overSamples 117 = .ok (.istore_n 2, 1) := by decide +kernel
theorem dX8_overSamples_118 : decode cX8_overSamples 118 = .ok (.iinc 6 1, 3) := by decide +kernel
theorem dX8_overSamples_121 : decode cX8_overSamples 121 = .ok (.goto (-63), 3) := by decide +kernel
theorem dX8_overSamples_124 : decode cX8_overSamples 124 = .ok (.iinc 3 1, 3) := by decide +kernel
theorem dX8_overSamples_127 : decode cX8_overSamples 127 = .ok (.goto (-123), 3) := by decide +kernel
theorem dX8_overSamples_130 : decode cX8_overSamples 130 = .ok (.iload_n 2, 1) := by decide +kernel
theorem dX8_overSamples_131 : decode cX8_overSamples 131 = .ok (.ireturn, 1) := by decide +kernel
theorem dX8_count_0 : decode cX8_count 0 = .ok (.aload_n 0, 1) := by decide +kernel
theorem dX8_count_1 : decode cX8_count 1 = .ok (.iconst 0, 1) := by decide +kernel
theorem dX8_count_2 : decode cX8_count 2 = .ok (.putfield 50, 3) := by decide +kernel
theorem dX8_count_5 : decode cX8_count 5 = .ok (.iload_n 1, 1) := by decide +kernel
theorem dX8_count_6 : decode cX8_count 6 = .ok (.tableswitch 78 0 8 #[50, 50, 50, 57, 62, 62, 62, 68, 73], 50) := by decide +kernel
theorem dX8_count_56 : decode cX8_count 56 = .ok (.aload_n 0, 1) := by decide +kernel
theorem dX8_count_57 : decode cX8_count 57 = .ok (.getfield 7, 3) := by decide +kernel
theorem dX8_count_60 : decode cX8_count 60 = .ok (.iload_n 1, 1) := by decide +kernel
theorem dX8_count_61 : decode cX8_count 61 = .ok (.iaload, 1) := by decide +kernel
theorem dX8_count_62 : decode cX8_count 62 = .ok (.ireturn, 1) := by decide +kernel
theorem dX8_count_63 : decode cX8_count 63 = .ok (.aload_n 0, 1) := by decide +kernel
theorem dX8_count_64 : decode cX8_count 64 = .ok (.invokevirtual 206, 3) := by decide +kernel
theorem dX8_count_67 : decode cX8_count 67 = .ok (.ireturn, 1) := by decide +kernel
theorem dX8_count_68 : decode cX8_count 68 = .ok (.aload_n 0, 1) := by decide +kernel
theorem dX8_count_69 : decode cX8_count 69 = .ok (.iload_n 1, 1) := by decide +kernel
theorem dX8_count_70 : decode cX8_count 70 = .ok (.invokevirtual 209, 3) := by decide +kernel
theorem dX8_count_73 : decode cX8_count 73 = .ok (.ireturn, 1) := by decide +kernel
theorem dX8_count_74 : decode cX8_count 74 = .ok (.aload_n 0, 1) := by decide +kernel
theorem dX8_count_75 : decode cX8_count 75 = .ok (.getfield 62, 3) := by decide +kernel
theorem dX8_count_78 : decode cX8_count 78 = .ok (.ireturn, 1) := by decide +kernel
theorem dX8_count_79 : decode cX8_count 79 = .ok (.aload_n 0, 1) := by decide +kernel
theorem dX8_count_80 : decode cX8_count 80 = .ok (.getfield 120, 3) := by decide +kernel
theorem dX8_count_83 : decode cX8_count 83 = .ok (.ireturn, 1) := by decide +kernel
theorem dX8_count_84 : decode cX8_count 84 = .ok (.bipush (-2), 2) := by decide +kernel
theorem dX8_count_86 : decode cX8_count 86 = .ok (.ireturn, 1) := by decide +kernel
theorem dJ6_bitCount_0f7a4_0 : decode cJ6_bitCount_0f7a4 0 = .ok (.iload_n 0, 1) := by decide +kernel
theorem dJ6_bitCount_0f7a4_1 : decode cJ6_bitCount_0f7a4 1 = .ok (.iload_n 0, 1) := by decide +kernel
theorem dJ6_bitCount_0f7a4_2 : decode cJ6_bitCount_0f7a4 2 = .ok (.iconst 1, 1) := by decide +kernel
theorem dJ6_bitCount_0f7a4_3 : decode cJ6_bitCount_0f7a4 3 = .ok (.iushr, 1) := by decide +kernel
theorem dJ6_bitCount_0f7a4_4 : decode cJ6_bitCount_0f7a4 4 = .ok (.ldc_w 265, 3) := by decide +kernel
theorem dJ6_bitCount_0f7a4_7 : decode cJ6_bitCount_0f7a4 7 = .ok (.iand, 1) := by decide +kernel
theorem dJ6_bitCount_0f7a4_8 : decode cJ6_bitCount_0f7a4 8 = .ok (.isub, 1) := by decide +kernel
theorem dJ6_bitCount_0f7a4_9 : decode cJ6_bitCount_0f7a4 9 = .ok (.istore_n 0, 1) := by decide +kernel
theorem dJ6_bitCount_0f7a4_10 : decode cJ6_bitCount_0f7a4 10 = .ok (.iload_n 0, 1) := by decide +kernel
theorem dJ6_bitCount_0f7a4_11 : decode cJ6_bitCount_0f7a4 11 = .ok (.ldc_w 266, 3) := by decide +kernel
theorem dJ6_bitCount_0f7a4_14 : decode cJ6_bitCount_0f7a4 14 = .ok (.iand, 1) := by decide +kernel
theorem dJ6_bitCount_0f7a4_15 : decode cJ6_bitCount_0f7a4 15 = .ok (.iload_n 0, 1) := by decide +kernel
theorem dJ6_bitCount_0f7a4_16 : decode cJ6_bitCount_0f7a4 16 = .ok (.iconst 2, 1) := by decide +kernel
theorem dJ6_bitCount_0f7a4_17 : decode cJ6_bitCount_0f7a4 17 = .ok (.iushr, 1) := by decide +kernel
theorem dJ6_bitCount_0f7a4_18 : decode cJ6_bitCount_0f7a4 18 = .ok (.ldc_w 266, 3) := by decide +kernel
theorem dJ6_bitCount_0f7a4_21 : decode cJ6_bitCount_0f7a4 21 = .ok (.iand, 1) := by decide +kernel
theorem dJ6_bitCount_0f7a4_22 : decode cJ6_bitCount_0f7a4 22 = .ok (.iadd, 1) := by decide +kernel
theorem dJ6_bitCount_0f7a4_23 : decode cJ6_bitCount_0f7a4 23 = .ok (.istore_n 0, 1) := by decide +kernel
theorem dJ6_bitCount_0f7a4_24 : decode cJ6_bitCount_0f7a4 24 = .ok (.iload_n 0, 1) := by decide +kernel
theorem dJ6_bitCount_0f7a4_25 : decode cJ6_bitCount_0f7a4 25 = .ok (.iload_n 0, 1) := by decide +kernel
theorem dJ6_bitCount_0f7a4_26 : decode cJ6_bitCount_0f7a4 26 = .ok (.iconst 4, 1) := by decide +kernel
theorem dJ6_bitCount_0f7a4_27 : decode cJ6_bitCount_0f7a4 27 = .ok (.iushr, 1) := by decide +kernel
theorem dJ6_bitCount_0f7a4_28 : decode cJ6_bitCount_0f7a4 28 = .ok (.iadd, 1) := by decide +kernel
theorem dJ6_bitCount_0f7a4_29 : decode cJ6_bitCount_0f7a4 29 = .ok (.ldc_w 267, 3) := by decide +kernel
theorem dJ6_bitCount_0f7a4_32 : decode cJ6_bitCount_0f7a4 32 = .ok (.iand, 1) := by decide +kernel
theorem dJ6_bitCount_0f7a4_33 : decode cJ6_bitCount_0f7a4 33 = .ok (.istore_n 0, 1) := by decide +kernel
theorem dJ6_bitCount_0f7a4_34 : decode cJ6_bitCount_0f7a4 34 = .ok (.iload_n 0, 1) := by decide +kernel
theorem dJ6_bitCount_0f7a4_35 : decode cJ6_bitCount_0f7a4 35 = .ok (.iload_n 0, 1) := by decide +kernel
theorem dJ6_bitCount_0f7a4_36 : decode cJ6_bitCount_0f7a4 36 = .ok (.bipush 8, 2) := by decide +kernel
theorem dJ6_bitCount_0f7a4_38 : decode cJ6_bitCount_0f7a4 38 = .ok (.iushr, 1) := by decide +kernel
theorem dJ6_bitCount_0f7a4_39 : decode cJ6_bitCount_0f7a4 39 = .ok (.iadd, 1) := by decide +kernel
theorem dJ6_bitCount_0f7a4_40 : decode cJ6_bitCount_0f7a4 40 = .ok (.istore_n 0, 1) := by decide +kernel
theorem dJ6_bitCount_0f7a4_41 : decode cJ6_bitCount_0f7a4 41 = .ok (.iload_n 0, 1) := by decide +kernel
theorem dJ6_bitCount_0f7a4_42 : decode cJ6_bitCount_0f7a4 42 = .ok (.iload_n 0, 1) := by decide +kernel
theorem dJ6_bitCount_0f7a4_43 : decode cJ6_bitCount_0f7a4 43 = .ok (.bipush 16, 2) := by decide +kernel
theorem dJ6_bitCount_0f7a4_45 : decode cJ6_bitCount_0f7a4 45 = .ok (.iushr, 1) := by decide +kernel
theorem dJ6_bitCount_0f7a4_46 : decode cJ6_bitCount_0f7a4 46 = .ok (.iadd, 1) := by decide +kernel
theorem dJ6_bitCount_0f7a4_47 : decode cJ6_bitCount_0f7a4 47 = .ok (.istore_n 0, 1) := by decide +kernel
theorem dJ6_bitCount_0f7a4_48 : decode cJ6_bitCount_0f7a4 48 = .ok (.iload_n 0, 1) := by decide +kernel
theorem dJ6_bitCount_0f7a4_49 : decode cJ6_bitCount_0f7a4 49 = .ok (.bipush 63, 2) := by decide +kernel
theorem dJ6_bitCount_0f7a4_51 : decode cJ6_bitCount_0f7a4 51 = .ok (.iand, 1) := by decide +kernel
theorem dJ6_bitCount_0f7a4_52 : decode cJ6_bitCount_0f7a4 52 = .ok (.ireturn, 1) := by decide +kernel
theorem dJ9_max_7cf53_0 : decode cJ9_max_7cf53 0 = .ok (.iload_n 0, 1) := by decide +kernel
theorem dJ9_max_7cf53_1 : decode cJ9_max_7cf53 1 = .ok (.iload_n 1, 1) := by decide +kernel
theorem dJ9_max_7cf53_2 : decode cJ9_max_7cf53 2 = .ok (.if_icmp .lt 7, 3) := by decide +kernel
theorem dJ9_max_7cf53_5 : decode cJ9_max_7cf53 5 = .ok (.iload_n 0, 1) := by decide +kernel
theorem dJ9_max_7cf53_6 : decode cJ9_max_7cf53 6 = .ok (.goto 4, 3) := by decide +kernel
theorem dJ9_max_7cf53_9 : decode cJ9_max_7cf53 9 = .ok (.iload_n 1, 1) := by decide +kernel
theorem dJ9_max_7cf53_10 : decode cJ9_max_7cf53 10 = .ok (.ireturn, 1) := by decide +kernel
theorem dJ9_min_7cf53_0 : decode cJ9_min_7cf53 0 = .ok (.iload_n 0, 1) := by decide +kernel
theorem dJ9_min_7cf53_1 : decode cJ9_min_7cf53 1 = .ok (.iload_n 1, 1) := by decide +kernel
theorem dJ9_min_7cf53_2 : decode cJ9_min_7cf53 2 = .ok (.if_icmp .gt 7, 3) := by decide +kernel
theorem dJ9_min_7cf53_5 : decode cJ9_min_7cf53 5 = .ok (.iload_n 0, 1) := by decide +kernel
theorem dJ9_min_7cf53_6 : decode cJ9_min_7cf53 6 = .ok (.goto 4, 3) := by decide +kernel
theorem dJ9_min_7cf53_9 : decode cJ9_min_7cf53 9 = .ok (.iload_n 1, 1) := by decide +kernel
theorem dJ9_min_7cf53_10 : decode cJ9_min_7cf53 10 = .ok (.ireturn, 1) := by decide +kernel
theorem dJ7_fill_53178_0 : decode cJ7_fill_53178 0 = .ok (.iconst 0, 1) := by decide +kernel
theorem dJ7_fill_53178_1 : decode cJ7_fill_53178 1 = .ok (.istore_n 2, 1) := by decide +kernel
theorem dJ7_fill_53178_2 : decode cJ7_fill_53178 2 = .ok (.aload_n 0, 1) := by decide +kernel
theorem dJ7_fill_53178_3 : decode cJ7_fill_53178 3 = .ok (.arraylength, 1) := by decide +kernel
theorem dJ7_fill_53178_4 : decode cJ7_fill_53178 4 = .ok (.istore_n 3, 1) := by decide +kernel
theorem dJ7_fill_53178_5 : decode cJ7_fill_53178 5 = .ok (.iload_n 2, 1) := by decide +kernel
theorem dJ7_fill_53178_6 : decode cJ7_fill_53178 6 = .ok (.iload_n 3, 1) := by decide +kernel
theorem dJ7_fill_53178_7 : decode cJ7_fill_53178 7 = .ok (.if_icmp .ge 13, 3) := by decide +kernel
theorem dJ7_fill_53178_10 : decode cJ7_fill_53178 10 = .ok (.aload_n 0, 1) := by decide +kernel
theorem dJ7_fill_53178_11 : decode cJ7_fill_53178 11 = .ok (.iload_n 2, 1) := by decide +kernel
theorem dJ7_fill_53178_12 : decode cJ7_fill_53178 12 = .ok (.iload_n 1, 1) := by decide +kernel
theorem dJ7_fill_53178_13 : decode cJ7_fill_53178 13 = .ok (.iastore, 1) := by decide +kernel
theorem dJ7_fill_53178_14 : decode cJ7_fill_53178 14 = .ok (.iinc 2 1, 3) := by decide +kernel
theorem dJ7_fill_53178_17 : decode cJ7_fill_53178 17 = .ok (.goto (-12), 3) := by decide +kernel
theorem dJ7_fill_53178_20 : decode cJ7_fill_53178 20 = .ok (.return_, 1) := by decide +kernel
theorem dL_law_0 : decode cL_law 0 = .ok (.new 7, 3) := by decide +kernel
theorem dL_law_3 : decode cL_law 3 = .ok (.dup, 1) := by decide +kernel
theorem dL_law_4 : decode cL_law 4 = .ok (.invokespecial 9, 3) := by decide +kernel
theorem dL_law_7 : decode cL_law 7 = .ok (.astore_n 1, 1) := by decide +kernel
theorem dL_law_8 : decode cL_law 8 = .ok (.new 10, 3) := by decide +kernel
theorem dL_law_11 : decode cL_law 11 = .ok (.dup, 1) := by decide +kernel
theorem dL_law_12 : decode cL_law 12 = .ok (.invokespecial 12, 3) := by decide +kernel
theorem dL_law_15 : decode cL_law 15 = .ok (.astore_n 2, 1) := by decide +kernel
theorem dL_law_16 : decode cL_law 16 = .ok (.iconst 0, 1) := by decide +kernel
theorem dL_law_17 : decode cL_law 17 = .ok (.istore_n 3, 1) := by decide +kernel
theorem dL_law_18 : decode cL_law 18 = .ok (.iload_n 3, 1) := by decide +kernel
theorem dL_law_19 : decode cL_law 19 = .ok (.aload_n 0, 1) := by decide +kernel
theorem dL_law_20 : decode cL_law 20 = .ok (.arraylength, 1) := by decide +kernel
theorem dL_law_21 : decode cL_law 21 = .ok (.iconst 5, 1) := by decide +kernel
theorem dL_law_22 : decode cL_law 22 = .ok (.isub, 1) := by decide +kernel
theorem dL_law_23 : decode cL_law 23 = .ok (.if_icmp .gt 798, 3) := by decide +kernel
theorem dL_law_26 : decode cL_law 26 = .ok (.aload_n 0, 1) := by decide +kernel
theorem dL_law_27 : decode cL_law 27 = .ok (.iload_n 3, 1) := by decide +kernel
theorem dL_law_28 : decode cL_law 28 = .ok (.iaload, 1) := by decide +kernel
theorem dL_law_29 : decode cL_law 29 = .ok (.bipush 31, 2) := by decide +kernel
theorem dL_law_31 : decode cL_law 31 = .ok (.iand, 1) := by decide +kernel
theorem dL_law_32 : decode cL_law 32 = .ok (.tableswitch 783 0 23 #[112, 165, 178, 201, 234, 257, 280, 293, 316, 339, 364, 377, 390, 403, 416, 485, 518, 552, 585, 628, 661, 684, 727, 760], 112) := by decide +kernel
theorem dL_law_144 : decode cL_law 144 = .ok (.aload_n 1, 1) := by decide +kernel
theorem dL_law_145 : decode cL_law 145 = .ok (.aload_n 0, 1) := by decide +kernel
theorem dL_law_146 : decode cL_law 146 = .ok (.iload_n 3, 1) := by decide +kernel
theorem dL_law_147 : decode cL_law 147 = .ok (.iconst 1, 1) := by decide +kernel
theorem dL_law_148 : decode cL_law 148 = .ok (.iadd, 1) := by decide +kernel
theorem dL_law_149 : decode cL_law 149 = .ok (.iaload, 1) := by decide +kernel
theorem dL_law_150 : decode cL_law 150 = .ok (.aload_n 0, 1) := by decide +kernel
theorem dL_law_151 : decode cL_law 151 = .ok (.iload_n 3, 1) := by decide +kernel
theorem dL_law_152 : decode cL_law 152 = .ok (.iconst 2, 1) := by decide +kernel
theorem dL_law_153 : decode cL_law 153 = .ok (.iadd, 1) := by decide +kernel
theorem dL_law_154 : decode cL_law 154 = .ok (.iaload, 1) := by decide +kernel
theorem dL_law_155 : decode cL_law 155 = .ok (.aload_n 0, 1) := by decide +kernel
theorem dL_law_156 : decode cL_law 156 = .ok (.iload_n 3, 1) := by decide +kernel
theorem dL_law_157 : decode cL_law 157 = .ok (.iconst 3, 1) := by decide +kernel
theorem dL_law_158 : decode cL_law 158 = .ok (.iadd, 1) := by decide +kernel
theorem dL_law_159 : decode cL_law 159 = .ok (.iaload, 1) := by decide +kernel
theorem dL_law_160 : decode cL_law 160 = .ok (.aload_n 0, 1) := by decide +kernel
theorem dL_law_161 : decode cL_law 161 = .ok (.iload_n 3, 1) := by decide +kernel
theorem dL_law_162 : decode cL_law 162 = .ok (.iconst 4, 1) := by decide +kernel
theorem dL_law_163 : decode cL_law 163 = .ok (.iadd, 1) := by decide +kernel
theorem dL_law_164 : decode cL_law 164 = .ok (.iaload, 1) := by decide +kernel
theorem dL_law_165 : decode cL_law 165 = .ok (.invokevirtual 13, 3) := by decide +kernel
theorem dL_law_168 : decode cL_law 168 = .ok (.aload_n 2, 1) := by decide +kernel
theorem dL_law_169 : decode cL_law 169 = .ok (.aload_n 0, 1) := by decide +kernel
theorem dL_law_170 : decode cL_law 170 = .ok (.iload_n 3, 1) := by decide +kernel
theorem dL_law_171 : decode cL_law 171 = .ok (.iconst 1, 1) := by decide +kernel
theorem dL_law_172 : decode cL_law 172 = .ok (.iadd, 1) := by decide +kernel
theorem dL_law_173 : decode cL_law 173 = .ok (.iaload, 1) := by decide +kernel
theorem dL_law_174 : decode cL_law 174 = .ok (.aload_n 0, 1) := by decide +kernel
theorem dL_law_175 : decode cL_law 175 = .ok (.iload_n 3, 1) := by decide +kernel
theorem dL_law_176 : decode cL_law 176 = .ok (.iconst 2, 1) := by decide +kernel
theorem dL_law_177 : decode cL_law 177 = .ok (.iadd, 1) := by decide +kernel
theorem dL_law_178 : decode cL_law 178 = .ok (.iaload, 1) := by decide +kernel
theorem dL_law_179 : decode cL_law 179 = .ok (.aload_n 0, 1) := by decide +kernel
theorem dL_law_180 : decode cL_law 180 = .ok (.iload_n 3, 1) := by decide +kernel
theorem dL_law_181 : decode cL_law 181 = .ok (.iconst 3, 1) := by decide +kernel
theorem dL_law_182 : decode cL_law 182 = .ok (.iadd, 1) := by decide +kernel
theorem dL_law_183 : decode cL_law 183 = .ok (.iaload, 1) := by decide +kernel
theorem dL_law_184 : decode cL_law 184 = .ok (.aload_n 0, 1) := by decide +kernel
theorem dL_law_185 : decode cL_law 185 = .ok (.iload_n 3, 1) := by decide +kernel
theorem dL_law_186 : decode cL_law 186 = .ok (.iconst 4, 1) := by decide +kernel
theorem dL_law_187 : decode cL_law 187 = .ok (.iadd, 1) := by decide +kernel
theorem dL_law_188 : decode cL_law 188 = .ok (.iaload, 1) := by decide +kernel
theorem dL_law_189 : decode cL_law 189 = .ok (.invokevirtual 17, 3) := by decide +kernel
theorem dL_law_192 : decode cL_law 192 = .ok (.if_icmp .eq 623, 3) := by decide +kernel
theorem dL_law_195 : decode cL_law 195 = .ok (.iconst 0, 1) := by decide +kernel
theorem dL_law_196 : decode cL_law 196 = .ok (.ireturn, 1) := by decide +kernel
theorem dL_law_197 : decode cL_law 197 = .ok (.aload_n 1, 1) := by decide +kernel
theorem dL_law_198 : decode cL_law 198 = .ok (.invokevirtual 18, 3) := by decide +kernel
theorem dL_law_201 : decode cL_law 201 = .ok (.aload_n 2, 1) := by decide +kernel
theorem dL_law_202 : decode cL_law 202 = .ok (.invokevirtual 22, 3) := by decide +kernel
theorem dL_law_205 : decode cL_law 205 = .ok (.if_icmp .eq 610, 3) := by decide +kernel
theorem dL_law_208 : decode cL_law 208 = .ok (.iconst 0, 1) := by decide +kernel
theorem dL_law_209 : decode cL_law 209 = .ok (.ireturn, 1) := by decide +kernel
theorem dL_law_210 : decode cL_law 210 = .ok (.aload_n 1, 1) := by decide +kernel
theorem dL_law_211 : decode cL_law 211 = .ok (.aload_n 0, 1) := by decide +kernel
theorem dL_law_212 : decode cL_law 212 = .ok (.iload_n 3, 1) := by decide +kernel
theorem dL_law_213 : decode cL_law 213 = .ok (.iconst 1, 1) := by decide +kernel
theorem dL_law_214 : decode cL_law 214 = .ok (.iadd, 1) := by decide +kernel
theorem dL_law_215 : decode cL_law 215 = .ok (.iaload, 1) := by decide +kernel
theorem dL_law_216 : decode cL_law 216 = .ok (.invokevirtual 23, 3) := by decide +kernel
theorem dL_law_219 : decode cL_law 219 = .ok (.aload_n 2, 1) := by decide +kernel
theorem dL_law_220 : decode cL_law 220 = .ok (.aload_n 0, 1) := by decide +kernel
theorem dL_law_221 : decode cL_law 221 = .ok (.iload_n 3, 1) := by decide +kernel
theorem dL_law_222 : decode cL_law 222 = .ok (.iconst 1, 1) := by decide +kernel
theorem dL_law_223 : decode cL_law 223 = .ok (.iadd, 1) := by decide +kernel
theorem dL_law_224 : decode cL_law 224 = .ok (.iaload, 1) := by decide +kernel
theorem dL_law_225 : decode cL_law 225 = .ok (.invokevirtual 27, 3) := by decide +kernel
theorem dL_law_228 : decode cL_law 228 = .ok (.if_icmp .eq 587, 3) := by decide +kernel
theorem dL_law_231 : decode cL_law 231 = .ok (.iconst 0, 1) := by decide +kernel
theorem dL_law_232 : decode cL_law 232 = .ok (.ireturn, 1) := by decide +kernel
theorem dL_law_233 : decode cL_law 233 = .ok (.aload_n 1, 1) := by decide +kernel
theorem dL_law_234 : decode cL_law 234 = .ok (.aload_n 0, 1) := by decide +kernel
theorem dL_law_235 : decode cL_law 235 = .ok (.iload_n 3, 1) := by decide +kernel
theorem dL_law_236 : decode cL_law 236 = .ok (.iconst 1, 1) := by decide +kernel
theorem dL_law_237 : decode cL_law 237 = .ok (.iadd, 1) := by decide +kernel
theorem dL_law_238 : decode cL_law 238 = .ok (.iaload, 1) := by decide +kernel
theorem dL_law_239 : decode cL_law 239 = .ok (.aload_n 0, 1) := by decide +kernel
theorem dL_law_240 : decode cL_law 240 = .ok (.iload_n 3, 1) := by decide +kernel
theorem dL_law_241 : decode cL_law 241 = .ok (.iconst 2, 1) := by decide +kernel
theorem dL_law_242 : decode cL_law 242 = .ok (.iadd, 1) := by decide +kernel
theorem dL_law_243 : decode cL_law 243 = .ok (.iaload, 1) := by decide +kernel
theorem dL_law_244 : decode cL_law 244 = .ok (.invokevirtual 28, 3) := by decide +kernel
theorem dL_law_247 : decode cL_law 247 = .ok (.aload_n 2, 1) := by decide +kernel
theorem dL_law_248 : decode cL_law 248 = .ok (.aload_n 0, 1) := by decide +kernel
theorem dL_law_249 : decode cL_law 249 = .ok (.iload_n 3, 1) := by decide +kernel
theorem dL_law_250 : decode cL_law 250 = .ok (.iconst 1, 1) := by decide +kernel
theorem dL_law_251 : decode cL_law 251 = .ok (.iadd, 1) := by decide +kernel
theorem dL_law_252 : decode cL_law 252 = .ok (.iaload, 1) := by decide +kernel
theorem dL_law_253 : decode cL_law 253 = .ok (.aload_n 0, 1) := by decide +kernel
theorem dL_law_254 : decode cL_law 254 = .ok (.iload_n 3, 1) := by decide +kernel
theorem dL_law_255 : decode cL_law 255 = .ok (.iconst 2, 1) := by decide +kernel
theorem dL_law_256 : decode cL_law 256 = .ok (.iadd, 1) := by decide +kernel
theorem dL_law_257 : decode cL_law 257 = .ok (.iaload, 1) := by decide +kernel
theorem dL_law_258 : decode cL_law 258 = .ok (.invokevirtual 32, 3) := by decide +kernel
theorem dL_law_261 : decode cL_law 261 = .ok (.if_icmp .eq 554, 3) := by decide +kernel
theorem dL_law_264 : decode cL_law 264 = .ok (.iconst 0, 1) := by decide +kernel
theorem dL_law_265 : decode cL_law 265 = .ok (.ireturn, 1) := by decide +kernel
theorem dL_law_266 : decode cL_law 266 = .ok (.aload_n 1, 1) := by decide +kernel
theorem dL_law_267 : decode cL_law 267 = .ok (.aload_n 0, 1) := by decide +kernel
theorem dL_law_268 : decode cL_law 268 = .ok (.iload_n 3, 1) := by decide +kernel
theorem dL_law_269 : decode cL_law 269 = .ok (.iconst 1, 1) := by decide +kernel
theorem dL_law_270 : decode cL_law 270 = .ok (.iadd, 1) := by decide +kernel
theorem dL_law_271 : decode cL_law 271 = .ok (.iaload, 1) := by decide +kernel
theorem dL_law_272 : decode cL_law 272 = .ok (.invokevirtual 33, 3) := by decide +kernel
theorem dL_law_275 : decode cL_law 275 = .ok (.aload_n 2, 1) := by decide +kernel
theorem dL_law_276 : decode cL_law 276 = .ok (.aload_n 0, 1) := by decide +kernel
theorem dL_law_277 : decode cL_law 277 = .ok (.iload_n 3, 1) := by decide +kernel
theorem dL_law_278 : decode cL_law 278 = .ok (.iconst 1, 1) := by decide +kernel
theorem dL_law_279 : decode cL_law 279 = .ok (.iadd, 1) := by decide +kernel
theorem dL_law_280 : decode cL_law 280 = .ok (.iaload, 1) := by decide +kernel
theorem dL_law_281 : decode cL_law 281 = .ok (.invokevirtual 36, 3) := by decide +kernel
theorem dL_law_284 : decode cL_law 284 = .ok (.if_icmp .eq 531, 3) := by decide +kernel
theorem dL_law_287 : decode cL_law 287 = .ok (.iconst 0, 1) := by decide +kernel
theorem dL_law_288 : decode cL_law 288 = .ok (.ireturn, 1) := by decide +kernel
theorem dL_law_289 : decode cL_law 289 = .ok (.aload_n 1, 1) := by decide +kernel
theorem dL_law_290 : decode cL_law 290 = .ok (.aload_n 0, 1) := by decide +kernel
theorem dL_law_291 : decode cL_law 291 = .ok (.iload_n 3, 1) := by decide +kernel
theorem dL_law_292 : decode cL_law 292 = .ok (.iconst 1, 1) := by decide +kernel
theorem dL_law_293 : decode cL_law 293 = .ok (.iadd, 1) := by decide +kernel
theorem dL_law_294 : decode cL_law 294 = .ok (.iaload, 1) := by decide +kernel
theorem dL_law_295 : decode cL_law 295 = .ok (.invokevirtual 37, 3) := by decide +kernel
theorem dL_law_298 : decode cL_law 298 = .ok (.aload_n 2, 1) := by decide +kernel
theorem dL_law_299 : decode cL_law 299 = .ok (.aload_n 0, 1) := by decide +kernel
theorem dL_law_300 : decode cL_law 300 = .ok (.iload_n 3, 1) := by decide +kernel
theorem dL_law_301 : decode cL_law 301 = .ok (.iconst 1, 1) := by decide +kernel
theorem dL_law_302 : decode cL_law 302 = .ok (.iadd, 1) := by decide +kernel
theorem dL_law_303 : decode cL_law 303 = .ok (.iaload, 1) := by decide +kernel
theorem dL_law_304 : decode cL_law 304 = .ok (.invokevirtual 40, 3) := by decide +kernel
theorem dL_law_307 : decode cL_law 307 = .ok (.if_icmp .eq 508, 3) := by decide +kernel
theorem dL_law_310 : decode cL_law 310 = .ok (.iconst 0, 1) := by decide +kernel
theorem dL_law_311 : decode cL_law 311 = .ok (.ireturn, 1) := by decide +kernel
theorem dL_law_312 : decode cL_law 312 = .ok (.aload_n 1, 1) := by decide +kernel
theorem dL_law_313 : decode cL_law 313 = .ok (.invokevirtual 41, 3) := by decide +kernel
theorem dL_law_316 : decode cL_law 316 = .ok (.aload_n 2, 1) := by decide +kernel
theorem dL_law_317 : decode cL_law 317 = .ok (.invokevirtual 44, 3) := by decide +kernel
theorem dL_law_320 : decode cL_law 320 = .ok (.if_icmp .eq 495, 3) := by decide +kernel
theorem dL_law_323 : decode cL_law 323 = .ok (.iconst 0, 1) := by decide +kernel
theorem dL_law_324 : decode cL_law 324 = .ok (.ireturn, 1) := by decide +kernel
theorem dL_law_325 : decode cL_law 325 = .ok (.aload_n 1, 1) := by decide +kernel
theorem dL_law_326 : decode cL_law 326 = .ok (.aload_n 0, 1) := by decide +kernel
theorem dL_law_327 : decode cL_law 327 = .ok (.iload_n 3, 1) := by decide +kernel
theorem dL_law_328 : decode cL_law 328 = .ok (.iconst 1, 1) := by decide +kernel
theorem dL_law_329 : decode cL_law 329 = .ok (.iadd, 1) := by decide +kernel
theorem dL_law_330 : decode cL_law 330 = .ok (.iaload, 1) := by decide +kernel
theorem dL_law_331 : decode cL_law 331 = .ok (.invokevirtual 45, 3) := by decide +kernel
theorem dL_law_334 : decode cL_law 334 = .ok (.aload_n 2, 1) := by decide +kernel
theorem dL_law_335 : decode cL_law 335 = .ok (.aload_n 0, 1) := by decide +kernel
theorem dL_law_336 : decode cL_law 336 = .ok (.iload_n 3, 1) := by decide +kernel
theorem dL_law_337 : decode cL_law 337 = .ok (.iconst 1, 1) := by decide +kernel
theorem dL_law_338 : decode cL_law 338 = .ok (.iadd, 1) := by decide +kernel
theorem dL_law_339 : decode cL_law 339 = .ok (.iaload, 1) := by decide +kernel
theorem dL_law_340 : decode cL_law 340 = .ok (.invokevirtual 48, 3) := by decide +kernel
theorem dL_law_343 : decode cL_law 343 = .ok (.if_icmp .eq 472, 3) := by decide +kernel
theorem dL_law_346 : decode cL_law 346 = .ok (.iconst 0, 1) := by decide +kernel
theorem dL_law_347 : decode cL_law 347 = .ok (.ireturn, 1) := by decide +kernel
theorem dL_law_348 : decode cL_law 348 = .ok (.aload_n 1, 1) := by decide +kernel
theorem dL_law_349 : decode cL_law 349 = .ok (.aload_n 0, 1) := by decide +kernel
theorem dL_law_350 : decode cL_law 350 = .ok (.iload_n 3, 1) := by decide +kernel
theorem dL_law_351 : decode cL_law 351 = .ok (.iconst 1, 1) := by decide +kernel
theorem dL_law_352 : decode cL_law 352 = .ok (.iadd, 1) := by decide +kernel
theorem dL_law_353 : decode cL_law 353 = .ok (.iaload, 1) := by decide +kernel
theorem dL_law_354 : decode cL_law 354 = .ok (.invokevirtual 49, 3) := by decide +kernel
theorem dL_law_357 : decode cL_law 357 = .ok (.aload_n 2, 1) := by decide +kernel
theorem dL_law_358 : decode cL_law 358 = .ok (.aload_n 0, 1) := by decide +kernel
theorem dL_law_359 : decode cL_law 359 = .ok (.iload_n 3, 1) := by decide +kernel
theorem dL_law_360 : decode cL_law 360 = .ok (.iconst 1, 1) := by decide +kernel
theorem dL_law_361 : decode cL_law 361 = .ok (.iadd, 1) := by decide +kernel
theorem dL_law_362 : decode cL_law 362 = .ok (.iaload, 1) := by decide +kernel
theorem dL_law_363 : decode cL_law 363 = .ok (.invokevirtual 52, 3) := by decide +kernel
theorem dL_law_366 : decode cL_law 366 = .ok (.if_icmp .eq 449, 3) := by decide +kernel
theorem dL_law_369 : decode cL_law 369 = .ok (.iconst 0, 1) := by decide +kernel
theorem dL_law_370 : decode cL_law 370 = .ok (.ireturn, 1) := by decide +kernel
theorem dL_law_371 : decode cL_law 371 = .ok (.aload_n 1, 1) := by decide +kernel
theorem dL_law_372 : decode cL_law 372 = .ok (.aload_n 0, 1) := by decide +kernel
theorem dL_law_373 : decode cL_law 373 = .ok (.iload_n 3, 1) := by decide +kernel
theorem dL_law_374 : decode cL_law 374 = .ok (.iconst 1, 1) := by decide +kernel
theorem dL_law_375 : decode cL_law 375 = .ok (.iadd, 1) := by decide +kernel
theorem dL_law_376 : decode cL_law 376 = .ok (.iaload, 1) := by decide +kernel
theorem dL_law_377 : decode cL_law 377 = .ok (.i2c, 1) := by decide +kernel
theorem dL_law_378 : decode cL_law 378 = .ok (.invokevirtual 53, 3) := by decide +kernel
theorem dL_law_381 : decode cL_law 381 = .ok (.aload_n 2, 1) := by decide +kernel
theorem dL_law_382 : decode cL_law 382 = .ok (.aload_n 0, 1) := by decide +kernel
theorem dL_law_383 : decode cL_law 383 = .ok (.iload_n 3, 1) := by decide +kernel
theorem dL_law_384 : decode cL_law 384 = .ok (.iconst 1, 1) := by decide +kernel
theorem dL_law_385 : decode cL_law 385 = .ok (.iadd, 1) := by decide +kernel
theorem dL_law_386 : decode cL_law 386 = .ok (.iaload, 1) := by decide +kernel
theorem dL_law_387 : decode cL_law 387 = .ok (.i2c, 1) := by decide +kernel
theorem dL_law_388 : decode cL_law 388 = .ok (.invokevirtual 57, 3) := by decide +kernel
theorem dL_law_391 : decode cL_law 391 = .ok (.if_icmp .eq 424, 3) := by decide +kernel
theorem dL_law_394 : decode cL_law 394 = .ok (.iconst 0, 1) := by decide +kernel
theorem dL_law_395 : decode cL_law 395 = .ok (.ireturn, 1) := by decide +kernel
theorem dL_law_396 : decode cL_law 396 = .ok (.aload_n 1, 1) := by decide +kernel
theorem dL_law_397 : decode cL_law 397 = .ok (.invokevirtual 58, 3) := by decide +kernel
theorem dL_law_400 : decode cL_law 400 = .ok (.aload_n 2, 1) := by decide +kernel
theorem dL_law_401 : decode cL_law 401 = .ok (.invokevirtual 61, 3) := by decide +kernel
theorem dL_law_404 : decode cL_law 404 = .ok (.if_icmp .eq 411, 3) := by decide +kernel
theorem dL_law_407 : decode cL_law 407 = .ok (.iconst 0, 1) := by decide +kernel
theorem dL_law_408 : decode cL_law 408 = .ok (.ireturn, 1) := by decide +kernel
theorem dL_law_409 : decode cL_law 409 = .ok (.aload_n 1, 1) := by decide +kernel
theorem dL_law_410 : decode cL_law 410 = .ok (.invokevirtual 62, 3) := by decide +kernel
theorem dL_law_413 : decode cL_law 413 = .ok (.aload_n 2, 1) := by decide +kernel
theorem dL_law_414 : decode cL_law 414 = .ok (.invokevirtual 65, 3) := by decide +kernel
theorem dL_law_417 : decode cL_law 417 = .ok (.if_icmp .eq 398, 3) := by decide +kernel
theorem dL_law_420 : decode cL_law 420 = .ok (.iconst 0, 1) := by decide +kernel
theorem dL_law_421 : decode cL_law 421 = .ok (.ireturn, 1) := by decide +kernel
theorem dL_law_422 : decode cL_law 422 = .ok (.aload_n 1, 1) := by decide +kernel
theorem dL_law_423 : decode cL_law 423 = .ok (.invokevirtual 66, 3) := by decide +kernel
theorem dL_law_426 : decode cL_law 426 = .ok (.aload_n 2, 1) := by decide +kernel
theorem dL_law_427 : decode cL_law 427 = .ok (.invokevirtual 69, 3) := by decide +kernel
theorem dL_law_430 : decode cL_law 430 = .ok (.if_icmp .eq 385, 3) := by decide +kernel
theorem dL_law_433 : decode cL_law 433 = .ok (.iconst 0, 1) := by decide +kernel
theorem dL_law_434 : decode cL_law 434 = .ok (.ireturn, 1) := by decide +kernel
theorem dL_law_435 : decode cL_law 435 = .ok (.aload_n 1, 1) := by decide +kernel
theorem dL_law_436 : decode cL_law 436 = .ok (.invokevirtual 70, 3) := by decide +kernel
theorem dL_law_439 : decode cL_law 439 = .ok (.aload_n 2, 1) := by decide +kernel
theorem dL_law_440 : decode cL_law 440 = .ok (.invokevirtual 73, 3) := by decide +kernel
theorem dL_law_443 : decode cL_law 443 = .ok (.if_icmp .eq 372, 3) := by decide +kernel
theorem dL_law_446 : decode cL_law 446 = .ok (.iconst 0, 1) := by decide +kernel
theorem dL_law_447 : decode cL_law 447 = .ok (.ireturn, 1) := by decide +kernel
theorem dL_law_448 : decode cL_law 448 = .ok (.aload_n 1, 1) := by decide +kernel
theorem dL_law_449 : decode cL_law 449 = .ok (.aload_n 0, 1) := by decide +kernel
theorem dL_law_450 : decode cL_law 450 = .ok (.iload_n 3, 1) := by decide +kernel
theorem dL_law_451 : decode cL_law 451 = .ok (.iconst 1, 1) := by decide +kernel
theorem dL_law_452 : decode cL_law 452 = .ok (.iadd, 1) := by decide +kernel
theorem dL_law_453 : decode cL_law 453 = .ok (.iaload, 1) := by decide +kernel
theorem dL_law_454 : decode cL_law 454 = .ok (.aload_n 0, 1) := by decide +kernel
theorem dL_law_455 : decode cL_law 455 = .ok (.iload_n 3, 1) := by decide +kernel
theorem dL_law_456 : decode cL_law 456 = .ok (.iconst 2, 1) := by decide +kernel
theorem dL_law_457 : decode cL_law 457 = .ok (.iadd, 1) := by decide +kernel
theorem dL_law_458 : decode cL_law 458 = .ok (.iaload, 1) := by decide +kernel
theorem dL_law_459 : decode cL_law 459 = .ok (.aload_n 0, 1) := by decide +kernel
theorem dL_law_460 : decode cL_law 460 = .ok (.iload_n 3, 1) := by decide +kernel
theorem dL_law_461 : decode cL_law 461 = .ok (.iconst 3, 1) := by decide +kernel
theorem dL_law_462 : decode cL_law 462 = .ok (.iadd, 1) := by decide +kernel
theorem dL_law_463 : decode cL_law 463 = .ok (.iaload, 1) := by decide +kernel
theorem dL_law_464 : decode cL_law 464 = .ok (.aload_n 0, 1) := by decide +kernel
theorem dL_law_465 : decode cL_law 465 = .ok (.iload_n 3, 1) := by decide +kernel
theorem dL_law_466 : decode cL_law 466 = .ok (.iconst 4, 1) := by decide +kernel
theorem dL_law_467 : decode cL_law 467 = .ok (.iadd, 1) := by decide +kernel
theorem dL_law_468 : decode cL_law 468 = .ok (.iaload, 1) := by decide +kernel
theorem dL_law_469 : decode cL_law 469 = .ok (.ifCond .eq 7, 3) := by decide +kernel
theorem dL_law_472 : decode cL_law 472 = .ok (.iconst 1, 1) := by decide +kernel
theorem dL_law_473 : decode cL_law 473 = .ok (.goto 4, 3) := by decide +kernel
theorem dL_law_476 : decode cL_law 476 = .ok (.iconst 0, 1) := by decide +kernel
theorem dL_law_477 : decode cL_law 477 = .ok (.invokevirtual 74, 3) := by decide +kernel
theorem dL_law_480 : decode cL_law 480 = .ok (.aload_n 2, 1) := by decide +kernel
theorem dL_law_481 : decode cL_law 481 = .ok (.aload_n 0, 1) := by decide +kernel
theorem dL_law_482 : decode cL_law 482 = .ok (.iload_n 3, 1) := by decide +kernel
theorem dL_law_483 : decode cL_law 483 = .ok (.iconst 1, 1) := by decide +kernel
theorem dL_law_484 : decode cL_law 484 = .ok (.iadd, 1) := by decide +kernel
theorem dL_law_485 : decode cL_law 485 = .ok (.iaload, 1) := by decide +kernel
theorem dL_law_486 : decode cL_law 486 = .ok (.aload_n 0, 1) := by decide +kernel
theorem dL_law_487 : decode cL_law 487 = .ok (.iload_n 3, 1) := by decide +kernel
theorem dL_law_488 : decode cL_law 488 = .ok (.iconst 2, 1) := by decide +kernel
theorem dL_law_489 : decode cL_law 489 = .ok (.iadd, 1) := by decide +kernel
theorem dL_law_490 : decode cL_law 490 = .ok (.iaload, 1) := by decide +kernel
theorem dL_law_491 : decode cL_law 491 = .ok (.aload_n 0, 1) := by decide +kernel
theorem dL_law_492 : decode cL_law 492 = .ok (.iload_n 3, 1) := by decide +kernel
theorem dL_law_493 : decode cL_law 493 = .ok (.iconst 3, 1) := by decide +kernel
theorem dL_law_494 : decode cL_law 494 = .ok (.iadd, 1) := by decide +kernel
theorem dL_law_495 : decode cL_law 495 = .ok (.iaload, 1) := by decide +kernel
theorem dL_law_496 : decode cL_law 496 = .ok (.aload_n 0, 1) := by decide +kernel
theorem dL_law_497 : decode cL_law 497 = .ok (.iload_n 3, 1) := by decide +kernel
theorem dL_law_498 : decode cL_law 498 = .ok (.iconst 4, 1) := by decide +kernel
theorem dL_law_499 : decode cL_law 499 = .ok (.iadd, 1) := by decide +kernel
theorem dL_law_500 : decode cL_law 500 = .ok (.iaload, 1) := by decide +kernel
theorem dL_law_501 : decode cL_law 501 = .ok (.ifCond .eq 7, 3) := by decide +kernel
theorem dL_law_504 : decode cL_law 504 = .ok (.iconst 1, 1) := by decide +kernel
theorem dL_law_505 : decode cL_law 505 = .ok (.goto 4, 3) := by decide +kernel
theorem dL_law_508 : decode cL_law 508 = .ok (.iconst 0, 1) := by decide +kernel
theorem dL_law_509 : decode cL_law 509 = .ok (.invokevirtual 78, 3) := by decide +kernel
theorem dL_law_512 : decode cL_law 512 = .ok (.if_icmp .eq 303, 3) := by decide +kernel
theorem dL_law_515 : decode cL_law 515 = .ok (.iconst 0, 1) := by decide +kernel
theorem dL_law_516 : decode cL_law 516 = .ok (.ireturn, 1) := by decide +kernel
theorem dL_law_517 : decode cL_law 517 = .ok (.aload_n 1, 1) := by decide +kernel
theorem dL_law_518 : decode cL_law 518 = .ok (.aload_n 0, 1) := by decide +kernel
theorem dL_law_519 : decode cL_law 519 = .ok (.iload_n 3, 1) := by decide +kernel
theorem dL_law_520 : decode cL_law 520 = .ok (.iconst 1, 1) := by decide +kernel
theorem dL_law_521 : decode cL_law 521 = .ok (.iadd, 1) := by decide +kernel
theorem dL_law_522 : decode cL_law 522 = .ok (.iaload, 1) := by decide +kernel
theorem dL_law_523 : decode cL_law 523 = .ok (.aload_n 0, 1) := by decide +kernel
theorem dL_law_524 : decode cL_law 524 = .ok (.iload_n 3, 1) := by decide +kernel
theorem dL_law_525 : decode cL_law 525 = .ok (.iconst 2, 1) := by decide +kernel
theorem dL_law_526 : decode cL_law 526 = .ok (.iadd, 1) := by decide +kernel
theorem dL_law_527 : decode cL_law 527 = .ok (.iaload, 1) := by decide +kernel
theorem dL_law_528 : decode cL_law 528 = .ok (.invokevirtual 79, 3) := by decide +kernel
theorem dL_law_531 : decode cL_law 531 = .ok (.aload_n 2, 1) := by decide +kernel
theorem dL_law_532 : decode cL_law 532 = .ok (.aload_n 0, 1) := by decide +kernel
theorem dL_law_533 : decode cL_law 533 = .ok (.iload_n 3, 1) := by decide +kernel
theorem dL_law_534 : decode cL_law 534 = .ok (.iconst 1, 1) := by decide +kernel
theorem dL_law_535 : decode cL_law 535 = .ok (.iadd, 1) := by decide +kernel
theorem dL_law_536 : decode cL_law 536 = .ok (.iaload, 1) := by decide +kernel
theorem dL_law_537 : decode cL_law 537 = .ok (.aload_n 0, 1) := by decide +kernel
theorem dL_law_538 : decode cL_law 538 = .ok (.iload_n 3, 1) := by decide +kernel
theorem dL_law_539 : decode cL_law 539 = .ok (.iconst 2, 1) := by decide +kernel
theorem dL_law_540 : decode cL_law 540 = .ok (.iadd, 1) := by decide +kernel
theorem dL_law_541 : decode cL_law 541 = .ok (.iaload, 1) := by decide +kernel
theorem dL_law_542 : decode cL_law 542 = .ok (.invokevirtual 82, 3) := by decide +kernel
theorem dL_law_545 : decode cL_law 545 = .ok (.if_icmp .eq 270, 3) := by decide +kernel
theorem dL_law_548 : decode cL_law 548 = .ok (.iconst 0, 1) := by decide +kernel
theorem dL_law_549 : decode cL_law 549 = .ok (.ireturn, 1) := by decide +kernel
theorem dL_law_550 : decode cL_law 550 = .ok (.aload_n 1, 1) := by decide +kernel
theorem dL_law_551 : decode cL_law 551 = .ok (.aload_n 0, 1) := by decide +kernel
theorem dL_law_552 : decode cL_law 552 = .ok (.iload_n 3, 1) := by decide +kernel
theorem dL_law_553 : decode cL_law 553 = .ok (.iconst 1, 1) := by decide +kernel
theorem dL_law_554 : decode cL_law 554 = .ok (.iadd, 1) := by decide +kernel
theorem dL_law_555 : decode cL_law 555 = .ok (.iaload, 1) := by decide +kernel
theorem dL_law_556 : decode cL_law 556 = .ok (.aload_n 0, 1) := by decide +kernel
theorem dL_law_557 : decode cL_law 557 = .ok (.iload_n 3, 1) := by decide +kernel
theorem dL_law_558 : decode cL_law 558 = .ok (.iconst 2, 1) := by decide +kernel
theorem dL_law_559 : decode cL_law 559 = .ok (.iadd, 1) := by decide +kernel
theorem dL_law_560 : decode cL_law 560 = .ok (.iaload, 1) := by decide +kernel
theorem dL_law_561 : decode cL_law 561 = .ok (.invokevirtual 83, 3) := by decide +kernel
theorem dL_law_564 : decode cL_law 564 = .ok (.aload_n 2, 1) := by decide +kernel
theorem dL_law_565 : decode cL_law 565 = .ok (.aload_n 0, 1) := by decide +kernel
theorem dL_law_566 : decode cL_law 566 = .ok (.iload_n 3, 1) := by decide +kernel
theorem dL_law_567 : decode cL_law 567 = .ok (.iconst 1, 1) := by decide +kernel
theorem dL_law_568 : decode cL_law 568 = .ok (.iadd, 1) := by decide +kernel
theorem dL_law_569 : decode cL_law 569 = .ok (.iaload, 1) := by decide +kernel
theorem dL_law_570 : decode cL_law 570 = .ok (.aload_n 0, 1) := by decide +kernel
theorem dL_law_571 : decode cL_law 571 = .ok (.iload_n 3, 1) := by decide +kernel
theorem dL_law_572 : decode cL_law 572 = .ok (.iconst 2, 1) := by decide +kernel
theorem dL_law_573 : decode cL_law 573 = .ok (.iadd, 1) := by decide +kernel
theorem dL_law_574 : decode cL_law 574 = .ok (.iaload, 1) := by decide +kernel
theorem dL_law_575 : decode cL_law 575 = .ok (.invokevirtual 87, 3) := by decide +kernel
theorem dL_law_578 : decode cL_law 578 = .ok (.lcmp, 1) := by decide +kernel
theorem dL_law_579 : decode cL_law 579 = .ok (.ifCond .eq 236, 3) := by decide +kernel
theorem dL_law_582 : decode cL_law 582 = .ok (.iconst 0, 1) := by decide +kernel
theorem dL_law_583 : decode cL_law 583 = .ok (.ireturn, 1) := by decide +kernel
theorem dL_law_584 : decode cL_law 584 = .ok (.aload_n 1, 1) := by decide +kernel
theorem dL_law_585 : decode cL_law 585 = .ok (.aload_n 0, 1) := by decide +kernel
theorem dL_law_586 : decode cL_law 586 = .ok (.iload_n 3, 1) := by decide +kernel
theorem dL_law_587 : decode cL_law 587 = .ok (.iconst 1, 1) := by decide +kernel
theorem dL_law_588 : decode cL_law 588 = .ok (.iadd, 1) := by decide +kernel
theorem dL_law_589 : decode cL_law 589 = .ok (.iaload, 1) := by decide +kernel
theorem dL_law_590 : decode cL_law 590 = .ok (.aload_n 0, 1) := by decide +kernel
theorem dL_law_591 : decode cL_law 591 = .ok (.iload_n 3, 1) := by decide +kernel
theorem dL_law_592 : decode cL_law 592 = .ok (.iconst 2, 1) := by decide +kernel
theorem dL_law_593 : decode cL_law 593 = .ok (.iadd, 1) := by decide +kernel
theorem dL_law_594 : decode cL_law 594 = .ok (.iaload, 1) := by decide +kernel
theorem dL_law_595 : decode cL_law 595 = .ok (.invokevirtual 88, 3) := by decide +kernel
theorem dL_law_598 : decode cL_law 598 = .ok (.aload_n 2, 1) := by decide +kernel
theorem dL_law_599 : decode cL_law 599 = .ok (.aload_n 0, 1) := by decide +kernel
theorem dL_law_600 : decode cL_law 600 = .ok (.iload_n 3, 1) := by decide +kernel
theorem dL_law_601 : decode cL_law 601 = .ok (.iconst 1, 1) := by decide +kernel
theorem dL_law_602 : decode cL_law 602 = .ok (.iadd, 1) := by decide +kernel
theorem dL_law_603 : decode cL_law 603 = .ok (.iaload, 1) := by decide +kernel
theorem dL_law_604 : decode cL_law 604 = .ok (.aload_n 0, 1) := by decide +kernel
theorem dL_law_605 : decode cL_law 605 = .ok (.iload_n 3, 1) := by decide +kernel
theorem dL_law_606 : decode cL_law 606 = .ok (.iconst 2, 1) := by decide +kernel
theorem dL_law_607 : decode cL_law 607 = .ok (.iadd, 1) := by decide +kernel
theorem dL_law_608 : decode cL_law 608 = .ok (.iaload, 1) := by decide +kernel
theorem dL_law_609 : decode cL_law 609 = .ok (.invokevirtual 91, 3) := by decide +kernel
theorem dL_law_612 : decode cL_law 612 = .ok (.if_icmp .eq 203, 3) := by decide +kernel
theorem dL_law_615 : decode cL_law 615 = .ok (.iconst 0, 1) := by decide +kernel
theorem dL_law_616 : decode cL_law 616 = .ok (.ireturn, 1) := by decide +kernel
theorem dL_law_617 : decode cL_law 617 = .ok (.aload_n 1, 1) := by decide +kernel
theorem dL_law_618 : decode cL_law 618 = .ok (.aload_n 0, 1) := by decide +kernel
theorem dL_law_619 : decode cL_law 619 = .ok (.iload_n 3, 1) := by decide +kernel
theorem dL_law_620 : decode cL_law 620 = .ok (.iconst 1, 1) := by decide +kernel
theorem dL_law_621 : decode cL_law 621 = .ok (.iadd, 1) := by decide +kernel
theorem dL_law_622 : decode cL_law 622 = .ok (.iaload, 1) := by decide +kernel
theorem dL_law_623 : decode cL_law 623 = .ok (.aload_n 0, 1) := by decide +kernel
theorem dL_law_624 : decode cL_law 624 = .ok (.iload_n 3, 1) := by decide +kernel
theorem dL_law_625 : decode cL_law 625 = .ok (.iconst 2, 1) := by decide +kernel
theorem dL_law_626 : decode cL_law 626 = .ok (.iadd, 1) := by decide +kernel
theorem dL_law_627 : decode cL_law 627 = .ok (.iaload, 1) := by decide +kernel
theorem dL_law_628 : decode cL_law 628 = .ok (.aload_n 0, 1) := by decide +kernel
theorem dL_law_629 : decode cL_law 629 = .ok (.iload_n 3, 1) := by decide +kernel
theorem dL_law_630 : decode cL_law 630 = .ok (.iconst 3, 1) := by decide +kernel
theorem dL_law_631 : decode cL_law 631 = .ok (.iadd, 1) := by decide +kernel
theorem dL_law_632 : decode cL_law 632 = .ok (.iaload, 1) := by decide +kernel
theorem dL_law_633 : decode cL_law 633 = .ok (.invokevirtual 92, 3) := by decide +kernel
theorem dL_law_636 : decode cL_law 636 = .ok (.aload_n 2, 1) := by decide +kernel
theorem dL_law_637 : decode cL_law 637 = .ok (.aload_n 0, 1) := by decide +kernel
theorem dL_law_638 : decode cL_law 638 = .ok (.iload_n 3, 1) := by decide +kernel
theorem dL_law_639 : decode cL_law 639 = .ok (.iconst 1, 1) := by decide +kernel
theorem dL_law_640 : decode cL_law 640 = .ok (.iadd, 1) := by decide +kernel
theorem dL_law_641 : decode cL_law 641 = .ok (.iaload, 1) := by decide +kernel
theorem dL_law_642 : decode cL_law 642 = .ok (.aload_n 0, 1) := by decide +kernel
theorem dL_law_643 : decode cL_law 643 = .ok (.iload_n 3, 1) := by decide +kernel
theorem dL_law_644 : decode cL_law 644 = .ok (.iconst 2, 1) := by decide +kernel
theorem dL_law_645 : decode cL_law 645 = .ok (.iadd, 1) := by decide +kernel
theorem dL_law_646 : decode cL_law 646 = .ok (.iaload, 1) := by decide +kernel
theorem dL_law_647 : decode cL_law 647 = .ok (.aload_n 0, 1) := by decide +kernel
theorem dL_law_648 : decode cL_law 648 = .ok (.iload_n 3, 1) := by decide +kernel
theorem dL_law_649 : decode cL_law 649 = .ok (.iconst 3, 1) := by decide +kernel
theorem dL_law_650 : decode cL_law 650 = .ok (.iadd, 1) := by decide +kernel
theorem dL_law_651 : decode cL_law 651 = .ok (.iaload, 1) := by decide +kernel
theorem dL_law_652 : decode cL_law 652 = .ok (.invokevirtual 96, 3) := by decide +kernel
theorem dL_law_655 : decode cL_law 655 = .ok (.if_icmp .eq 160, 3) := by decide +kernel
theorem dL_law_658 : decode cL_law 658 = .ok (.iconst 0, 1) := by decide +kernel
theorem dL_law_659 : decode cL_law 659 = .ok (.ireturn, 1) := by decide +kernel
theorem dL_law_660 : decode cL_law 660 = .ok (.aload_n 1, 1) := by decide +kernel
theorem dL_law_661 : decode cL_law 661 = .ok (.aload_n 0, 1) := by decide +kernel
theorem dL_law_662 : decode cL_law 662 = .ok (.iload_n 3, 1) := by decide +kernel
theorem dL_law_663 : decode cL_law 663 = .ok (.iconst 1, 1) := by decide +kernel
theorem dL_law_664 : decode cL_law 664 = .ok (.iadd, 1) := by decide +kernel
theorem dL_law_665 : decode cL_law 665 = .ok (.iaload, 1) := by decide +kernel
theorem dL_law_666 : decode cL_law 666 = .ok (.aload_n 0, 1) := by decide +kernel
theorem dL_law_667 : decode cL_law 667 = .ok (.iload_n 3, 1) := by decide +kernel
theorem dL_law_668 : decode cL_law 668 = .ok (.iconst 2, 1) := by decide +kernel
theorem dL_law_669 : decode cL_law 669 = .ok (.iadd, 1) := by decide +kernel
theorem dL_law_670 : decode cL_law 670 = .ok (.iaload, 1) := by decide +kernel
theorem dL_law_671 : decode cL_law 671 = .ok (.invokevirtual 97, 3) := by decide +kernel
theorem dL_law_674 : decode cL_law 674 = .ok (.aload_n 2, 1) := by decide +kernel
theorem dL_law_675 : decode cL_law 675 = .ok (.aload_n 0, 1) := by decide +kernel
theorem dL_law_676 : decode cL_law 676 = .ok (.iload_n 3, 1) := by decide +kernel
theorem dL_law_677 : decode cL_law 677 = .ok (.iconst 1, 1) := by decide +kernel
theorem dL_law_678 : decode cL_law 678 = .ok (.iadd, 1) := by decide +kernel
theorem dL_law_679 : decode cL_law 679 = .ok (.iaload, 1) := by decide +kernel
theorem dL_law_680 : decode cL_law 680 = .ok (.aload_n 0, 1) := by decide +kernel
theorem dL_law_681 : decode cL_law 681 = .ok (.iload_n 3, 1) := by decide +kernel
theorem dL_law_682 : decode cL_law 682 = .ok (.iconst 2, 1) := by decide +kernel
theorem dL_law_683 : decode cL_law 683 = .ok (.iadd, 1) := by decide +kernel
theorem dL_law_684 : decode cL_law 684 = .ok (.iaload, 1) := by decide +kernel
theorem dL_law_685 : decode cL_law 685 = .ok (.invokevirtual 100, 3) := by decide +kernel
theorem dL_law_688 : decode cL_law 688 = .ok (.if_icmp .eq 127, 3) := by decide +kernel
theorem dL_law_691 : decode cL_law 691 = .ok (.iconst 0, 1) := by decide +kernel
theorem dL_law_692 : decode cL_law 692 = .ok (.ireturn, 1) := by decide +kernel
theorem dL_law_693 : decode cL_law 693 = .ok (.aload_n 1, 1) := by decide +kernel
theorem dL_law_694 : decode cL_law 694 = .ok (.aload_n 0, 1) := by decide +kernel
theorem dL_law_695 : decode cL_law 695 = .ok (.iload_n 3, 1) := by decide +kernel
theorem dL_law_696 : decode cL_law 696 = .ok (.iconst 1, 1) := by decide +kernel
theorem dL_law_697 : decode cL_law 697 = .ok (.iadd, 1) := by decide +kernel
theorem dL_law_698 : decode cL_law 698 = .ok (.iaload, 1) := by decide +kernel
theorem dL_law_699 : decode cL_law 699 = .ok (.invokevirtual 101, 3) := by decide +kernel
theorem dL_law_702 : decode cL_law 702 = .ok (.aload_n 2, 1) := by decide +kernel
theorem dL_law_703 : decode cL_law 703 = .ok (.aload_n 0, 1) := by decide +kernel
theorem dL_law_704 : decode cL_law 704 = .ok (.iload_n 3, 1) := by decide +kernel
theorem dL_law_705 : decode cL_law 705 = .ok (.iconst 1, 1) := by decide +kernel
theorem dL_law_706 : decode cL_law 706 = .ok (.iadd, 1) := by decide +kernel
theorem dL_law_707 : decode cL_law 707 = .ok (.iaload, 1) := by decide +kernel
theorem dL_law_708 : decode cL_law 708 = .ok (.invokevirtual 104, 3) := by decide +kernel
theorem dL_law_711 : decode cL_law 711 = .ok (.if_icmp .eq 104, 3) := by decide +kernel
theorem dL_law_714 : decode cL_law 714 = .ok (.iconst 0, 1) := by decide +kernel
theorem dL_law_715 : decode cL_law 715 = .ok (.ireturn, 1) := by decide +kernel
theorem dL_law_716 : decode cL_law 716 = .ok (.aload_n 1, 1) := by decide +kernel
theorem dL_law_717 : decode cL_law 717 = .ok (.aload_n 0, 1) := by decide +kernel
theorem dL_law_718 : decode cL_law 718 = .ok (.iload_n 3, 1) := by decide +kernel
theorem dL_law_719 : decode cL_law 719 = .ok (.iconst 1, 1) := by decide +kernel
theorem dL_law_720 : decode cL_law 720 = .ok (.iadd, 1) := by decide +kernel
theorem dL_law_721 : decode cL_law 721 = .ok (.iaload, 1) := by decide +kernel
theorem dL_law_722 : decode cL_law 722 = .ok (.aload_n 0, 1) := by decide +kernel
theorem dL_law_723 : decode cL_law 723 = .ok (.iload_n 3, 1) := by decide +kernel
theorem dL_law_724 : decode cL_law 724 = .ok (.iconst 2, 1) := by decide +kernel
theorem dL_law_725 : decode cL_law 725 = .ok (.iadd, 1) := by decide +kernel
theorem dL_law_726 : decode cL_law 726 = .ok (.iaload, 1) := by decide +kernel
theorem dL_law_727 : decode cL_law 727 = .ok (.aload_n 0, 1) := by decide +kernel
theorem dL_law_728 : decode cL_law 728 = .ok (.iload_n 3, 1) := by decide +kernel
theorem dL_law_729 : decode cL_law 729 = .ok (.iconst 3, 1) := by decide +kernel
theorem dL_law_730 : decode cL_law 730 = .ok (.iadd, 1) := by decide +kernel
theorem dL_law_731 : decode cL_law 731 = .ok (.iaload, 1) := by decide +kernel
theorem dL_law_732 : decode cL_law 732 = .ok (.invokevirtual 105, 3) := by decide +kernel
theorem dL_law_735 : decode cL_law 735 = .ok (.aload_n 2, 1) := by decide +kernel
theorem dL_law_736 : decode cL_law 736 = .ok (.aload_n 0, 1) := by decide +kernel
theorem dL_law_737 : decode cL_law 737 = .ok (.iload_n 3, 1) := by decide +kernel
theorem dL_law_738 : decode cL_law 738 = .ok (.iconst 1, 1) := by decide +kernel
theorem dL_law_739 : decode cL_law 739 = .ok (.iadd, 1) := by decide +kernel
theorem dL_law_740 : decode cL_law 740 = .ok (.iaload, 1) := by decide +kernel
theorem dL_law_741 : decode cL_law 741 = .ok (.aload_n 0, 1) := by decide +kernel
theorem dL_law_742 : decode cL_law 742 = .ok (.iload_n 3, 1) := by decide +kernel
theorem dL_law_743 : decode cL_law 743 = .ok (.iconst 2, 1) := by decide +kernel
theorem dL_law_744 : decode cL_law 744 = .ok (.iadd, 1) := by decide +kernel
theorem dL_law_745 : decode cL_law 745 = .ok (.iaload, 1) := by decide +kernel
theorem dL_law_746 : decode cL_law 746 = .ok (.aload_n 0, 1) := by decide +kernel
theorem dL_law_747 : decode cL_law 747 = .ok (.iload_n 3, 1) := by decide +kernel
theorem dL_law_748 : decode cL_law 748 = .ok (.iconst 3, 1) := by decide +kernel
theorem dL_law_749 : decode cL_law 749 = .ok (.iadd, 1) := by decide +kernel
theorem dL_law_750 : decode cL_law 750 = .ok (.iaload, 1) := by decide +kernel
theorem dL_law_751 : decode cL_law 751 = .ok (.invokevirtual 108, 3) := by decide +kernel
theorem dL_law_754 : decode cL_law 754 = .ok (.if_icmp .eq 61, 3) := by decide +kernel
theorem dL_law_757 : decode cL_law 757 = .ok (.iconst 0, 1) := by decide +kernel
theorem dL_law_758 : decode cL_law 758 = .ok (.ireturn, 1) := by decide +kernel
theorem dL_law_759 : decode cL_law 759 = .ok (.aload_n 1, 1) := by decide +kernel
theorem dL_law_760 : decode cL_law 760 = .ok (.aload_n 0, 1) := by decide +kernel
theorem dL_law_761 : decode cL_law 761 = .ok (.iload_n 3, 1) := by decide +kernel
theorem dL_law_762 : decode cL_law 762 = .ok (.iconst 1, 1) := by decide +kernel
theorem dL_law_763 : decode cL_law 763 = .ok (.iadd, 1) := by decide +kernel
theorem dL_law_764 : decode cL_law 764 = .ok (.iaload, 1) := by decide +kernel
theorem dL_law_765 : decode cL_law 765 = .ok (.aload_n 0, 1) := by decide +kernel
theorem dL_law_766 : decode cL_law 766 = .ok (.iload_n 3, 1) := by decide +kernel
theorem dL_law_767 : decode cL_law 767 = .ok (.iconst 2, 1) := by decide +kernel
theorem dL_law_768 : decode cL_law 768 = .ok (.iadd, 1) := by decide +kernel
theorem dL_law_769 : decode cL_law 769 = .ok (.iaload, 1) := by decide +kernel
theorem dL_law_770 : decode cL_law 770 = .ok (.invokevirtual 109, 3) := by decide +kernel
theorem dL_law_773 : decode cL_law 773 = .ok (.aload_n 2, 1) := by decide +kernel
theorem dL_law_774 : decode cL_law 774 = .ok (.aload_n 0, 1) := by decide +kernel
theorem dL_law_775 : decode cL_law 775 = .ok (.iload_n 3, 1) := by decide +kernel
theorem dL_law_776 : decode cL_law 776 = .ok (.iconst 1, 1) := by decide +kernel
theorem dL_law_777 : decode cL_law 777 = .ok (.iadd, 1) := by decide +kernel
theorem dL_law_778 : decode cL_law 778 = .ok (.iaload, 1) := by decide +kernel
theorem dL_law_779 : decode cL_law 779 = .ok (.aload_n 0, 1) := by decide +kernel
theorem dL_law_780 : decode cL_law 780 = .ok (.iload_n 3, 1) := by decide +kernel
theorem dL_law_781 : decode cL_law 781 = .ok (.iconst 2, 1) := by decide +kernel
theorem dL_law_782 : decode cL_law 782 = .ok (.iadd, 1) := by decide +kernel
theorem dL_law_783 : decode cL_law 783 = .ok (.iaload, 1) := by decide +kernel
theorem dL_law_784 : decode cL_law 784 = .ok (.invokevirtual 112, 3) := by decide +kernel
theorem dL_law_787 : decode cL_law 787 = .ok (.if_icmp .eq 28, 3) := by decide +kernel
theorem dL_law_790 : decode cL_law 790 = .ok (.iconst 0, 1) := by decide +kernel
theorem dL_law_791 : decode cL_law 791 = .ok (.ireturn, 1) := by decide +kernel
theorem dL_law_792 : decode cL_law 792 = .ok (.aload_n 1, 1) := by decide +kernel
theorem dL_law_793 : decode cL_law 793 = .ok (.aload_n 0, 1) := by decide +kernel
theorem dL_law_794 : decode cL_law 794 = .ok (.iload_n 3, 1) := by decide +kernel
theorem dL_law_795 : decode cL_law 795 = .ok (.iconst 1, 1) := by decide +kernel
theorem dL_law_796 : decode cL_law 796 = .ok (.iadd, 1) := by decide +kernel
theorem dL_law_797 : decode cL_law 797 = .ok (.iaload, 1) := by decide +kernel
theorem dL_law_798 : decode cL_law 798 = .ok (.invokevirtual 113, 3) := by decide +kernel
theorem dL_law_801 : decode cL_law 801 = .ok (.aload_n 2, 1) := by decide +kernel
theorem dL_law_802 : decode cL_law 802 = .ok (.aload_n 0, 1) := by decide +kernel
theorem dL_law_803 : decode cL_law 803 = .ok (.iload_n 3, 1) := by decide +kernel
theorem dL_law_804 : decode cL_law 804 = .ok (.iconst 1, 1) := by decide +kernel
theorem dL_law_805 : decode cL_law 805 = .ok (.iadd, 1) := by decide +kernel
theorem dL_law_806 : decode cL_law 806 = .ok (.iaload, 1) := by decide +kernel
theorem dL_law_807 : decode cL_law 807 = .ok (.invokevirtual 116, 3) := by decide +kernel
theorem dL_law_810 : decode cL_law 810 = .ok (.if_icmp .eq 5, 3) := by decide +kernel
theorem dL_law_813 : decode cL_law 813 = .ok (.iconst 0, 1) := by decide +kernel
theorem dL_law_814 : decode cL_law 814 = .ok (.ireturn, 1) := by decide +kernel
theorem dL_law_815 : decode cL_law 815 = .ok (.iinc 3 5, 3) := by decide +kernel
theorem dL_law_818 : decode cL_law 818 = .ok (.goto (-800), 3) := by decide +kernel
theorem dL_law_821 : decode cL_law 821 = .ok (.iconst 1, 1) := by decide +kernel
theorem dL_law_822 : decode cL_law 822 = .ok (.ireturn, 1) := by decide +kernel
end
section
/-! THE LAYER V: the whole world as three functions (ints, longs, the row of references) over pointers 0..53; a row an instruction. -/
abbrev Iv : Type := Nat → Nat → Int32
abbrev Lv : Type := Nat → Nat → Int64
abbrev Pv : Type := Nat → Nat
/-- what stands at a pointer: (0, class), (1, n) ints, (2, n) chars, (3, n) longs, (4, n) references -/
def hs (i : Nat) : Nat × Nat := match i with
  | 0 => (0, 7)
  | 1 => (0, 3)
  | 2 => (1, 32)
  | 3 => (1, 6)
  | 4 => (1, 42)
  | 5 => (0, 3)
  | 6 => (1, 32)
  | 7 => (1, 6)
  | 8 => (1, 42)
  | 9 => (0, 1)
  | 10 => (4, 4)
  | 11 => (0, 3)
  | 12 => (1, 32)
  | 13 => (1, 6)
  | 14 => (1, 42)
  | 15 => (0, 3)
  | 16 => (1, 32)
  | 17 => (1, 6)
  | 18 => (1, 42)
  | 19 => (0, 3)
  | 20 => (1, 32)
  | 21 => (1, 6)
  | 22 => (1, 42)
  | 23 => (0, 3)
  | 24 => (1, 32)
  | 25 => (1, 6)
  | 26 => (1, 42)
  | 27 => (0, 5)
  | 28 => (2, 60)
  | 29 => (0, 6)
  | 30 => (3, 28)
  | 31 => (3, 28)
  | 32 => (0, 0)
  | 33 => (3, 28)
  | 34 => (1, 7)
  | 35 => (0, 4)
  | 36 => (1, 28)
  | 37 => (0, 2)
  | 38 => (1, 32)
  | 39 => (1, 32)
  | 40 => (0, 8)
  | 41 => (1, 83)
  | 42 => (1, 83)
  | 43 => (1, 332)
  | 44 => (1, 83)
  | 45 => (1, 60)
  | 46 => (3, 28)
  | 47 => (3, 28)
  | 48 => (3, 28)
  | 49 => (3, 28)
  | 50 => (3, 32)
  | 51 => (1, 4)
  | 52 => (1, 4)
  | 53 => (1, 256)
  | _ => (9, 0)
def nf (ci : Nat) : Nat := match ci with
  | 0 => 4 | 1 => 2 | 2 => 4 | 3 => 6 | 4 => 3 | 5 => 2 | 6 => 6 | 7 => 9 | 8 => 20 | _ => 0
/-- fields: 0 int, 1 long, 2 reference, 3 boolean -/
def ftk (ci k : Nat) : Nat := match ci with
  | 0 => (match k with | 0 => 2 | 1 => 2 | 2 => 2 | 3 => 1 | _ => 9)
  | 1 => (match k with | 0 => 2 | 1 => 0 | _ => 9)
  | 2 => (match k with | 0 => 2 | 1 => 2 | 2 => 2 | 3 => 2 | _ => 9)
  | 3 => (match k with | 0 => 2 | 1 => 0 | 2 => 0 | 3 => 2 | 4 => 2 | 5 => 0 | _ => 9)
  | 4 => (match k with | 0 => 2 | 1 => 2 | 2 => 0 | _ => 9)
  | 5 => (match k with | 0 => 2 | 1 => 0 | _ => 9)
  | 6 => (match k with | 0 => 2 | 1 => 0 | 2 => 0 | 3 => 2 | 4 => 2 | 5 => 1 | _ => 9)
  | 7 => (match k with | 0 => 2 | 1 => 2 | 2 => 3 | 3 => 2 | 4 => 2 | 5 => 2 | 6 => 2 | 7 => 2 | 8 => 2 | _ => 9)
  | 8 => (match k with | 0 => 0 | 1 => 2 | 2 => 2 | 3 => 2 | 4 => 0 | 5 => 2 | 6 => 3 | 7 => 2 | 8 => 0 | 9 => 2 | 10 => 2 | 11 => 2 | 12 => 2 | 13 => 2 | 14 => 2 | 15 => 2 | 16 => 0 | 17 => 3 | 18 => 2 | 19 => 0 | _ => 9)
  | _ => 9
/-- where the fields that are references lead -/
def rf (i k : Nat) : Nat := match i with
  | 0 => (match k with | 0 => 1 | 1 => 5 | 3 => 9 | 4 => 27 | 5 => 29 | 6 => 32 | 7 => 35 | 8 => 37 | _ => 0)
  | 1 => (match k with | 0 => 2 | 3 => 3 | 4 => 4 | _ => 0)
  | 5 => (match k with | 0 => 6 | 3 => 7 | 4 => 8 | _ => 0)
  | 9 => (match k with | 0 => 10 | _ => 0)
  | 11 => (match k with | 0 => 12 | 3 => 13 | 4 => 14 | _ => 0)
  | 15 => (match k with | 0 => 16 | 3 => 17 | 4 => 18 | _ => 0)
  | 19 => (match k with | 0 => 20 | 3 => 21 | 4 => 22 | _ => 0)
  | 23 => (match k with | 0 => 24 | 3 => 25 | 4 => 26 | _ => 0)
  | 27 => (match k with | 0 => 28 | _ => 0)
  | 29 => (match k with | 0 => 1 | 3 => 30 | 4 => 31 | _ => 0)
  | 32 => (match k with | 0 => 1 | 1 => 33 | 2 => 34 | _ => 0)
  | 35 => (match k with | 0 => 1 | 1 => 36 | _ => 0)
  | 37 => (match k with | 0 => 1 | 1 => 29 | 2 => 38 | 3 => 39 | _ => 0)
  | 40 => (match k with | 1 => 41 | 2 => 42 | 3 => 43 | 5 => 44 | 7 => 45 | 9 => 46 | 10 => 47 | 11 => 48 | 12 => 49 | 13 => 50 | 14 => 51 | 15 => 52 | 18 => 53 | _ => 0)
  | _ => 0
/-- launch, class numbers, addresses, the classes of the four kinds of rows -/
abbrev Cx : Type := Launch × va_G × (Nat → Nat) × ClassId × ClassId × ClassId × ClassId
abbrev x_l (x : Cx) : Launch := x.1
abbrev x_D (x : Cx) : va_G := x.2.1
abbrev x_ad (x : Cx) : Nat → Nat := x.2.2.1
abbrev x_I (x : Cx) : ClassId := x.2.2.2.1
abbrev x_C (x : Cx) : ClassId := x.2.2.2.2.1
abbrev x_J (x : Cx) : ClassId := x.2.2.2.2.2.1
abbrev x_R (x : Cx) : ClassId := x.2.2.2.2.2.2
def rfv (x : Cx) (i : Nat) : Value := .ref (x_ad x i)
def fvl (x : Cx) (ci i : Nat) (I : Iv) (L : Lv) (k : Nat) : Value := match ftk ci k with
  | 1 => .long (L i k)
  | 2 => .ref (x_ad x (rf i k))
  | _ => .int (I i k)
def cE (x : Cx) (I : Iv) (L : Lv) (P : Pv) (i : Nat) : va_E := match hs i with
  | (0, ci) => .inr (ci, (List.range (nf ci)).map (fvl x ci i I L))
  | (1, n) => .inl (x_I x, n, .inl (I i))
  | (2, n) => .inl (x_C x, n, .inl (I i))
  | (3, n) => .inl (x_J x, n, .inr (.inl (L i)))
  | (_, n) => .inl (x_R x, n, .inr (.inr (.inr (.inr (fun j => some (x_ad x (P j)))))))
def wl (x : Cx) (E : Nat → va_E) : va_W := (List.range 54).map (fun i => (x_ad x i, E i))
theorem wl_get {x : Cx} {E : Nat → va_E} {i : Nat} (h : i < 54) : (wl x E)[i]? = some (x_ad x i, E i) := by
  simp [wl, h]
theorem wl_set {x : Cx} {E E' : Nat → va_E} {i : Nat} {e : va_E} (h : i < 54) (h1 : E' i = e) (h2 : ∀ j, j ≠ i → E' j = E j) : (wl x E).set i (x_ad x i, e) = wl x E' := by
  apply List.ext_getElem?
  intro k
  rw [List.getElem?_set]
  by_cases hk : i = k
  · subst hk
    have hl : i < (wl x E).length := by simp [wl, h]
    rw [if_pos rfl, if_pos hl, wl_get h, h1]
  · rw [if_neg hk]
    by_cases hk2 : k < 54
    · rw [wl_get hk2, wl_get hk2, h2 k (fun q => hk q.symm)]
    · have e1 : (wl x E)[k]? = none := by simp [wl]; omega
      have e2 : (wl x E')[k]? = none := by simp [wl]; omega
      rw [e1, e2]
def AA (x : Cx) : Nat → Prop := fun q => ∃ i, i < 54 ∧ q = x_ad x i
def Inj (x : Cx) : Prop := ∀ i j, i < 54 → j < 54 → x_ad x i = x_ad x j → i = j
theorem wl_at {x : Cx} {E : Nat → va_E} {k : Nat} {q : Nat × va_E} (h : (wl x E)[k]? = some q) : k < 54 ∧ q = (x_ad x k, E k) := by
  by_cases hk : k < 54
  · rw [wl_get hk] at h
    exact ⟨hk, (Option.some.inj h).symm⟩
  · have e1 : (wl x E)[k]? = none := by simp [wl]; omega
    rw [e1] at h
    cases h
theorem wl_D {x : Cx} (E : Nat → va_E) (h : Inj x) : va_D (AA x) (wl x E) := by
  refine ⟨fun i j p q hp hq e => ?_, fun k q hq => ?_⟩
  · obtain ⟨h1, rfl⟩ := wl_at hp
    obtain ⟨h2, rfl⟩ := wl_at hq
    exact h i j h1 h2 e
  · obtain ⟨h1, rfl⟩ := wl_at hq
    exact ⟨k, h1, rfl⟩
def tyl (x : Cx) : List (ClassId × FieldType) := [(x_I x, .int), (x_C x, .char), (x_J x, .long), (x_R x, .object "HiddenRuns$Model")]
def KX (x : Cx) (U : State) : Prop := va_K (x_D x) vwCl (tyl x) U ∧ (∀ w ∈ nestW, va_Nw w U) ∧ Inj x
theorem KX.warm {x : Cx} {s U : State} (hW : s.WarmedH U.vm) (h : KX x s) : KX x U := by
  refine ⟨va_K.moved hW.alike h.1, fun w hw => ?_, h.2.2⟩
  have h1 := h.2.1 w hw
  have h2 : isNest w = true := NW_is w hw
  cases w <;> first
    | exact va_Nw.warmF hW h1
    | exact va_Nw.warmM hW h1
    | (simp [isNest] at h2; done)
theorem KX.calling {x : Cx} {U : State} {g : JFrame} {mk : MethodId} {a : Array Value} (h : KX x U) : KX x (U.calling g mk a) := by
  refine ⟨va_K.moved (u := U) (U := U.calling g mk a) (Vm.Alike.refl U.vm) h.1, fun w hw => ?_, h.2.2⟩
  have h1 := h.2.1 w hw
  have h2 : isNest w = true := NW_is w hw
  cases w <;> first
    | exact va_Nw.same rfl (u := U) rfl h1
    | (simp [isNest] at h2; done)
/-- a method: name, bytes, locals, answer, room in frames and in locals -/
abbrev MI : Type := MethodName × ByteArray × Nat × Option FieldType × Nat × Nat
abbrev mY (M : MI) : MethodName := M.1
abbrev mB (M : MI) : ByteArray := M.2.1
abbrev mL (M : MI) : Nat := M.2.2.1
abbrev mR (M : MI) : Option FieldType := M.2.2.2.1
abbrev mF (M : MI) : Nat := M.2.2.2.2.1
abbrev mO (M : MI) : Nat := M.2.2.2.2.2
def wsM (M : MI) : List Cond := Cond.code (mY M) (mB M) (mL M) (mR M) :: TB
def rmM (M : MI) : Room := { frames := mF M, cells := 0, slots := 0, locals := mO M }
theorem wsM_good (M : MI) (h : Cond.code (mY M) (mB M) (mL M) (mR M) ∈ TB) {big : List Cond} (hb : ∀ w ∈ TB, w ∈ big) : GoodIn big (wsM M) := by
  intro w hw
  rcases List.mem_cons.mp hw with rfl | hw
  · exact ⟨hb _ h, good_of_word (TB_good _ h)⟩
  · exact ⟨hb _ hw, good_of_word (TB_good _ hw)⟩
abbrev Qt : Type := Option Value → Iv → Lv → Pv → Prop
abbrev HP (x : Cx) (I : Iv) (L : Lv) (P : Pv) (H : Heap) : Prop := va_P (x_D x) vwCl (wl x (cE x I L P)) H
def QcO (x : Cx) (Q : Qt) : Array Value → State → Outcome → State → Prop := fun _ st oc t => (∃ v I L P, oc = .returned v ∧ Q v I L P ∧ HP x I L P t.heap) ∧ va_F (AA x) st t
def PcO (x : Cx) (args : List Value) (I : Iv) (L : Lv) (P : Pv) : Array Value → State → Prop := va_Pc args (fun U => HP x I L P U.heap ∧ KX x U)
/-- the contract of a method at one state: it ends, and Q holds of its answer and of the state then -/
def SP (x : Cx) (M : MI) (args : List Value) (I : Iv) (L : Lv) (P : Pv) (Q : Qt) : Prop := Met (x_l x) (mY M) (wsM M) (rmM M) (PcO x args I L P) (QcO x Q) 0 0 (AA x)
theorem PcO_blind (x : Cx) (args : List Value) (I : Iv) (L : Lv) (P : Pv) : FrameBlind (PcO x args I L P) := fun a U g mk q => by
  obtain ⟨q0, q1, q2⟩ := q
  exact ⟨q0, q1, q2.calling⟩
def CT (M : MI) (p : Program) (s : State) (m : MethodId) (args : Array Value) (meth : Method) (c : Code) : Prop :=
  p.tables.exec = Jvm.exec ∧ c.code = mB M ∧ meth.sig.returnType = mR M ∧ c.maxLocals = mL M ∧ s.vm.findClass (mY M).cls = some m.cls ∧ (∀ w ∈ wsM M, w.before args s = true) ∧ meth.locks = false
/-- the locals by their places: a long stands before none -/
def lvA : Nat → List (Option Value) → List (Nat × Value)
  | _, [] => []
  | j, none :: r => lvA (j + 1) r
  | j, some v :: r => (j, v) :: lvA (j + 1) r
theorem lvA_mem : ∀ (ls : List (Option Value)) (j : Nat) (q : Nat × Value), q ∈ lvA j ls ↔ j ≤ q.1 ∧ ls[q.1 - j]? = some (some q.2)
  | [], j, q => by simp [lvA]
  | none :: r, j, q => by
    rw [lvA, lvA_mem r (j + 1) q]
    constructor
    · rintro ⟨h1, h2⟩
      refine ⟨by omega, ?_⟩
      rw [show q.1 - j = (q.1 - (j + 1)) + 1 by omega]
      exact h2
    · rintro ⟨h1, h2⟩
      by_cases e : q.1 = j
      · rw [e, Nat.sub_self] at h2
        simp at h2
      · refine ⟨by omega, ?_⟩
        rw [show q.1 - j = (q.1 - (j + 1)) + 1 by omega] at h2
        exact h2
  | some v :: r, j, q => by
    rw [lvA, List.mem_cons, lvA_mem r (j + 1) q]
    constructor
    · rintro (rfl | ⟨h1, h2⟩)
      · simp
      · refine ⟨by omega, ?_⟩
        rw [show q.1 - j = (q.1 - (j + 1)) + 1 by omega]
        exact h2
    · rintro ⟨h1, h2⟩
      by_cases e : q.1 = j
      · left
        rw [e, Nat.sub_self] at h2
        simp at h2
        obtain ⟨a, b⟩ := q
        simp_all
      · right
        refine ⟨by omega, ?_⟩
        rw [show q.1 - j = (q.1 - (j + 1)) + 1 by omega] at h2
        exact h2
theorem lvA_get {lsA : Array Slot} {nL : Nat} {ls : List (Option Value)} (h : lv_has lsA nL (lvA 0 ls)) {i : Nat} {v : Value} (hi : ls[i]? = some (some v)) : lsA[i]? = some (.val v) :=
  h.2.2 (i, v) ((lvA_mem ls 0 (i, v)).mpr ⟨Nat.zero_le _, hi⟩)
def isL (w : Option Value) : Bool := match w with
  | some (.long _) => true
  | some (.double _) => true
  | _ => false
def stA (i : Nat) (v : Value) : Nat → List (Option Value) → List (Option Value)
  | _, [] => []
  | j, w :: r => (if j = i then some v else if j + 1 = i ∧ isL w = true then none else w) :: stA i v (j + 1) r
def stB (i : Nat) (v : Value) : Nat → List (Option Value) → List (Option Value)
  | _, [] => []
  | j, w :: r => (if j = i then some v else if j = i + 1 then none else if j + 1 = i ∧ isL w = true then none else w) :: stB i v (j + 1) r
theorem stA_get (i : Nat) (v : Value) : ∀ (ls : List (Option Value)) (j k : Nat), (stA i v j ls)[k]? = (ls[k]?).map (fun w => if j + k = i then some v else if j + k + 1 = i ∧ isL w = true then none else w)
  | [], j, k => by simp [stA]
  | w :: r, j, 0 => by simp [stA]
  | w :: r, j, k + 1 => by
    rw [stA, List.getElem?_cons_succ, stA_get i v r (j + 1) k, List.getElem?_cons_succ, show j + 1 + k = j + (k + 1) by omega]
theorem stB_get (i : Nat) (v : Value) : ∀ (ls : List (Option Value)) (j k : Nat), (stB i v j ls)[k]? = (ls[k]?).map (fun w => if j + k = i then some v else if j + k = i + 1 then none else if j + k + 1 = i ∧ isL w = true then none else w)
  | [], j, k => by simp [stB]
  | w :: r, j, 0 => by simp [stB]
  | w :: r, j, k + 1 => by
    rw [stB, List.getElem?_cons_succ, stB_get i v r (j + 1) k, List.getElem?_cons_succ, show j + 1 + k = j + (k + 1) by omega]
theorem cat2_isL {v : Value} (h : ¬ isL (some v) = true) : ¬ v.category = 2 := by
  cases v <;> simp_all [isL, Value.category]
theorem lvA_stA {lsA : Array Slot} {nL : Nat} {ls : List (Option Value)} {i : Nat} {v : Value} (h : lv_has lsA nL ((i, v) :: (lvA 0 ls).filter (fun q => !(q.1 == i) && !(q.1 + 1 == i && q.2.category == 2)))) : lv_has lsA nL (lvA 0 (stA i v 0 ls)) := by
  refine ⟨h.1, h.2.1, fun q hq => h.2.2 q ?_⟩
  obtain ⟨k, u⟩ := q
  rw [lvA_mem, stA_get] at hq
  obtain ⟨-, hq⟩ := hq
  simp only [Nat.sub_zero, Nat.zero_add] at hq
  cases hg : ls[k]? with
  | none => rw [hg] at hq; cases hq
  | some w =>
    rw [hg, Option.map_some] at hq
    by_cases e : k = i
    · subst e
      simp at hq
      subst hq
      exact List.mem_cons_self
    · rw [if_neg e] at hq
      by_cases e2 : k + 1 = i ∧ isL w = true
      · rw [if_pos e2] at hq
        cases hq
      · rw [if_neg e2] at hq
        have hw : w = some u := Option.some.inj hq
        subst hw
        refine List.mem_cons_of_mem _ (List.mem_filter.mpr ⟨(lvA_mem ls 0 (k, u)).mpr ⟨Nat.zero_le _, hg⟩, ?_⟩)
        by_cases e3 : k + 1 = i
        · have : ¬ u.category = 2 := cat2_isL (fun q => e2 ⟨e3, q⟩)
          simp [e, this]
        · simp [e, e3]
theorem lvA_stB {lsA : Array Slot} {nL : Nat} {ls : List (Option Value)} {i : Nat} {v : Value} (h : lv_has lsA nL ((i, v) :: (lvA 0 ls).filter (fun q => !(q.1 == i) && (!(q.1 == i + 1) && !(q.1 + 1 == i && q.2.category == 2))))) : lv_has lsA nL (lvA 0 (stB i v 0 ls)) := by
  refine ⟨h.1, h.2.1, fun q hq => h.2.2 q ?_⟩
  obtain ⟨k, u⟩ := q
  rw [lvA_mem, stB_get] at hq
  obtain ⟨-, hq⟩ := hq
  simp only [Nat.sub_zero, Nat.zero_add] at hq
  cases hg : ls[k]? with
  | none => rw [hg] at hq; cases hq
  | some w =>
    rw [hg, Option.map_some] at hq
    by_cases e : k = i
    · subst e
      simp at hq
      subst hq
      exact List.mem_cons_self
    · rw [if_neg e] at hq
      by_cases e1 : k = i + 1
      · rw [if_pos e1] at hq
        cases hq
      · rw [if_neg e1] at hq
        by_cases e2 : k + 1 = i ∧ isL w = true
        · rw [if_pos e2] at hq
          cases hq
        · rw [if_neg e2] at hq
          have hw : w = some u := Option.some.inj hq
          subst hw
          refine List.mem_cons_of_mem _ (List.mem_filter.mpr ⟨(lvA_mem ls 0 (k, u)).mpr ⟨Nat.zero_le _, hg⟩, ?_⟩)
          by_cases e3 : k + 1 = i
          · have : ¬ u.category = 2 := cat2_isL (fun q => e2 ⟨e3, q⟩)
            simp [e, e1, this]
          · simp [e, e1, e3]
/-- from here the method comes to its end with Q -/
def V (x : Cx) (M : MI) (Q : Qt) (pc : Nat) (ls : List (Option Value)) (st : List Value) (I : Iv) (L : Lv) (P : Pv) : Prop :=
  ∀ (p : Program) (e : Env) (s : State) (m : MethodId) (args : Array Value) (below : List Frame) (meth : Method) (c : Code), CT M p s m args meth c → KX x s → ∀ (H : Heap) (locs : List Loc) (lsA : Array Slot), HP x I L P H → va_S (AA x) s.heap H locs → lv_has lsA (mL M) (lvA 0 ls) →
    W p (x_l x) e (headSpec (wsM M) (rmM M)).room s m args below meth c H locs 0 0 (MQ below (QcO x Q) args s 0 0 (AA x)) (F0 m pc lsA st)
theorem SP.intro {x : Cx} {M : MI} {args : List Value} {I : Iv} {L : Lv} {P : Pv} {Q : Qt} (ls : List (Option Value)) (hpl : plainName (mY M).cls = true) (hlen : (lg_sl args).length ≤ mL M) (hls : lvA 0 ls = lv_args 0 args) (h : V x M Q 0 ls [] I L P) : SP x M args I L P Q := by
  refine Met.ofW (cc := mB M) (maxL := mL M) (ret := mR M) (ws' := TB) hpl rfl ?_
  intro p e s m args' below meth c s₁ B hml hv
  obtain ⟨rfl, hP, hK⟩ := hv
  have hl := lv_entry args (n := mL M) hlen
  rw [lg_entry_eq]
  refine h p e s m _ below meth c ⟨B.exec, B.bytes, B.returns, hml, findClass_of_methodNamed B.named, atoms_spec (ws := wsM M) B.pre, B.notSynchronized⟩ hK s.heap [] _ hP va_S.rf ?_
  rw [hls]
  exact hl
section ROWS
variable {x : Cx} {M : MI} {Q : Qt} {pc : Nat} {ls : List (Option Value)} {st : List Value} {I : Iv} {L : Lv} {P : Pv}

theorem v_iconst (q : Nat) {n : Int} (v : Int32) (hv : Int32.ofInt n = v) (d : decode (mB M) pc = .ok (.iconst n, 1)) (hq : pc + 1 = q) (kk : V x M Q q ls (.int v :: st) I L P) : V x M Q pc ls (st) I L P := by
  subst hq
  intro p e s m args below meth c hc hk H locs lsA hP hS hl
  exact lv_iconst hc.1 hc.2.1 d hv (kk p e s m args below meth c hc hk H locs lsA hP hS hl)
theorem v_bipush (q : Nat) {n : Int} (v : Int32) (hv : (Int8.ofInt n).toInt32 = v) (d : decode (mB M) pc = .ok (.bipush n, 2)) (hq : pc + 2 = q) (kk : V x M Q q ls (.int v :: st) I L P) : V x M Q pc ls (st) I L P := by
  subst hq
  intro p e s m args below meth c hc hk H locs lsA hP hS hl
  exact lv_bipush hc.1 hc.2.1 d hv (kk p e s m args below meth c hc hk H locs lsA hP hS hl)
theorem v_sipush (q : Nat) {n : Int} (v : Int32) (hv : (Int16.ofInt n).toInt32 = v) (d : decode (mB M) pc = .ok (.sipush n, 3)) (hq : pc + 3 = q) (kk : V x M Q q ls (.int v :: st) I L P) : V x M Q pc ls (st) I L P := by
  subst hq
  intro p e s m args below meth c hc hk H locs lsA hP hS hl
  exact lv_sipush hc.1 hc.2.1 d hv (kk p e s m args below meth c hc hk H locs lsA hP hS hl)
theorem v_lconst (q : Nat) {n : Fin 2} (v : Int64) (hv : Int64.ofNat (n : Nat) = v) (d : decode (mB M) pc = .ok (.lconst n, 1)) (hq : pc + 1 = q) (kk : V x M Q q ls (.long v :: st) I L P) : V x M Q pc ls (st) I L P := by
  subst hq
  intro p e s m args below meth c hc hk H locs lsA hP hS hl
  exact lv_lconst hc.1 hc.2.1 d hv (kk p e s m args below meth c hc hk H locs lsA hP hS hl)
theorem v_iload_n (q : Nat) {k : Fin 4} {v : Int32} (hl0 : ls[(k : Nat)]? = some (some (.int v))) (d : decode (mB M) pc = .ok (.iload_n k, 1)) (hq : pc + 1 = q) (kk : V x M Q q ls (.int v :: st) I L P) : V x M Q pc ls (st) I L P := by
  subst hq
  intro p e s m args below meth c hc hk H locs lsA hP hS hl
  exact lv_iload_n hc.1 hc.2.1 d rfl (lvA_get hl hl0) (kk p e s m args below meth c hc hk H locs lsA hP hS hl)
theorem v_iload (q : Nat) {k : Nat} {v : Int32} (hl0 : ls[k]? = some (some (.int v))) (d : decode (mB M) pc = .ok (.iload k, 2)) (hq : pc + 2 = q) (kk : V x M Q q ls (.int v :: st) I L P) : V x M Q pc ls (st) I L P := by
  subst hq
  intro p e s m args below meth c hc hk H locs lsA hP hS hl
  exact lv_iload hc.1 hc.2.1 d (lvA_get hl hl0) (kk p e s m args below meth c hc hk H locs lsA hP hS hl)
theorem v_lload_n (q : Nat) {k : Fin 4} {v : Int64} (hl0 : ls[(k : Nat)]? = some (some (.long v))) (d : decode (mB M) pc = .ok (.lload_n k, 1)) (hq : pc + 1 = q) (kk : V x M Q q ls (.long v :: st) I L P) : V x M Q pc ls (st) I L P := by
  subst hq
  intro p e s m args below meth c hc hk H locs lsA hP hS hl
  exact lv_lload_n hc.1 hc.2.1 d rfl (lvA_get hl hl0) (kk p e s m args below meth c hc hk H locs lsA hP hS hl)
theorem v_lload (q : Nat) {k : Nat} {v : Int64} (hl0 : ls[k]? = some (some (.long v))) (d : decode (mB M) pc = .ok (.lload k, 2)) (hq : pc + 2 = q) (kk : V x M Q q ls (.long v :: st) I L P) : V x M Q pc ls (st) I L P := by
  subst hq
  intro p e s m args below meth c hc hk H locs lsA hP hS hl
  exact lv_lload hc.1 hc.2.1 d (lvA_get hl hl0) (kk p e s m args below meth c hc hk H locs lsA hP hS hl)
theorem v_aload_n (q : Nat) {k : Fin 4} {v : Nat} (hl0 : ls[(k : Nat)]? = some (some (rfv x v))) (d : decode (mB M) pc = .ok (.aload_n k, 1)) (hq : pc + 1 = q) (kk : V x M Q q ls (rfv x v :: st) I L P) : V x M Q pc ls (st) I L P := by
  subst hq
  intro p e s m args below meth c hc hk H locs lsA hP hS hl
  exact lv_aload_n hc.1 hc.2.1 d rfl (lvA_get hl hl0) (kk p e s m args below meth c hc hk H locs lsA hP hS hl)
theorem v_aload (q : Nat) {k : Nat} {v : Nat} (hl0 : ls[k]? = some (some (rfv x v))) (d : decode (mB M) pc = .ok (.aload k, 2)) (hq : pc + 2 = q) (kk : V x M Q q ls (rfv x v :: st) I L P) : V x M Q pc ls (st) I L P := by
  subst hq
  intro p e s m args below meth c hc hk H locs lsA hP hS hl
  exact lv_aload hc.1 hc.2.1 d (lvA_get hl hl0) (kk p e s m args below meth c hc hk H locs lsA hP hS hl)
theorem v_istore_n (q : Nat) (ls' : List (Option Value)) {k : Fin 4} {v : Int32} (d : decode (mB M) pc = .ok (.istore_n k, 1)) (hq : pc + 1 = q) (hn : (k : Nat) < mL M) (hls : stA (k : Nat) (.int v) 0 ls = ls') (kk : V x M Q q ls' st I L P) : V x M Q pc ls (.int v :: st) I L P := by
  subst hq
  subst hls
  intro p e s m args below meth c hc hk H locs lsA hP hS hl
  exact lv_istore_n hc.1 hc.2.1 d rfl hl hn rfl (fun ls1 h1 => kk p e s m args below meth c hc hk H locs ls1 hP hS (lvA_stA h1))
theorem v_istore (q : Nat) (ls' : List (Option Value)) {k : Nat} {v : Int32} (d : decode (mB M) pc = .ok (.istore k, 2)) (hq : pc + 2 = q) (hn : k < mL M) (hls : stA k (.int v) 0 ls = ls') (kk : V x M Q q ls' st I L P) : V x M Q pc ls (.int v :: st) I L P := by
  subst hq
  subst hls
  intro p e s m args below meth c hc hk H locs lsA hP hS hl
  exact lv_istore hc.1 hc.2.1 d hl hn rfl (fun ls1 h1 => kk p e s m args below meth c hc hk H locs ls1 hP hS (lvA_stA h1))
theorem v_astore_n (q : Nat) (ls' : List (Option Value)) {k : Fin 4} {v : Nat} (d : decode (mB M) pc = .ok (.astore_n k, 1)) (hq : pc + 1 = q) (hn : (k : Nat) < mL M) (hls : stA (k : Nat) (rfv x v) 0 ls = ls') (kk : V x M Q q ls' st I L P) : V x M Q pc ls (rfv x v :: st) I L P := by
  subst hq
  subst hls
  intro p e s m args below meth c hc hk H locs lsA hP hS hl
  exact lv_astore_n hc.1 hc.2.1 d rfl hl hn rfl (fun ls1 h1 => kk p e s m args below meth c hc hk H locs ls1 hP hS (lvA_stA h1))
theorem v_astore (q : Nat) (ls' : List (Option Value)) {k : Nat} {v : Nat} (d : decode (mB M) pc = .ok (.astore k, 2)) (hq : pc + 2 = q) (hn : k < mL M) (hls : stA k (rfv x v) 0 ls = ls') (kk : V x M Q q ls' st I L P) : V x M Q pc ls (rfv x v :: st) I L P := by
  subst hq
  subst hls
  intro p e s m args below meth c hc hk H locs lsA hP hS hl
  exact lv_astore hc.1 hc.2.1 d hl hn rfl (fun ls1 h1 => kk p e s m args below meth c hc hk H locs ls1 hP hS (lvA_stA h1))
theorem v_lstore_n (q : Nat) (ls' : List (Option Value)) {k : Fin 4} {v : Int64} (d : decode (mB M) pc = .ok (.lstore_n k, 1)) (hq : pc + 1 = q) (hn : (k : Nat) + 1 < mL M) (hls : stB (k : Nat) (.long v) 0 ls = ls') (kk : V x M Q q ls' st I L P) : V x M Q pc ls (.long v :: st) I L P := by
  subst hq
  subst hls
  intro p e s m args below meth c hc hk H locs lsA hP hS hl
  exact lv_lstore_n hc.1 hc.2.1 d rfl hl hn rfl (fun ls1 h1 => kk p e s m args below meth c hc hk H locs ls1 hP hS (lvA_stB h1))
theorem v_lstore (q : Nat) (ls' : List (Option Value)) {k : Nat} {v : Int64} (d : decode (mB M) pc = .ok (.lstore k, 2)) (hq : pc + 2 = q) (hn : k + 1 < mL M) (hls : stB k (.long v) 0 ls = ls') (kk : V x M Q q ls' st I L P) : V x M Q pc ls (.long v :: st) I L P := by
  subst hq
  subst hls
  intro p e s m args below meth c hc hk H locs lsA hP hS hl
  exact lv_lstore hc.1 hc.2.1 d hl hn rfl (fun ls1 h1 => kk p e s m args below meth c hc hk H locs ls1 hP hS (lvA_stB h1))
theorem v_iinc (q : Nat) (ls' : List (Option Value)) {k : Nat} {n : Int} {a : Int32} (v : Int32) (d : decode (mB M) pc = .ok (.iinc k n, 3)) (hq : pc + 3 = q) (hn : k < mL M) (ha : ls[k]? = some (some (.int a))) (hv : a + Int32.ofInt n = v) (hls : stA k (.int v) 0 ls = ls') (kk : V x M Q q ls' st I L P) : V x M Q pc ls st I L P := by
  subst hq
  subst hls
  intro p e s m args below meth c hc hk H locs lsA hP hS hl
  obtain ⟨j, hj⟩ := List.getElem?_of_mem ((lvA_mem ls 0 (k, .int a)).mpr ⟨Nat.zero_le _, ha⟩)
  exact lv_iinc hc.1 hc.2.1 d hl hj hv hn rfl (fun ls1 h1 => kk p e s m args below meth c hc hk H locs ls1 hP hS (lvA_stA h1))
theorem v_iadd (q : Nat) {a b : Int32} (r : Int32) (d : decode (mB M) pc = .ok (.iadd, 1)) (hq : pc + 1 = q) (hr : a + b = r) (kk : V x M Q q ls (.int r :: st) I L P) : V x M Q pc ls (.int b :: .int a :: st) I L P := by
  subst hq
  subst hr
  intro p e s m args below meth c hc hk H locs lsA hP hS hl
  exact lv_iadd hc.1 hc.2.1 d (kk p e s m args below meth c hc hk H locs lsA hP hS hl)
theorem v_isub (q : Nat) {a b : Int32} (r : Int32) (d : decode (mB M) pc = .ok (.isub, 1)) (hq : pc + 1 = q) (hr : a - b = r) (kk : V x M Q q ls (.int r :: st) I L P) : V x M Q pc ls (.int b :: .int a :: st) I L P := by
  subst hq
  subst hr
  intro p e s m args below meth c hc hk H locs lsA hP hS hl
  exact lv_isub hc.1 hc.2.1 d (kk p e s m args below meth c hc hk H locs lsA hP hS hl)
theorem v_imul (q : Nat) {a b : Int32} (r : Int32) (d : decode (mB M) pc = .ok (.imul, 1)) (hq : pc + 1 = q) (hr : a * b = r) (kk : V x M Q q ls (.int r :: st) I L P) : V x M Q pc ls (.int b :: .int a :: st) I L P := by
  subst hq
  subst hr
  intro p e s m args below meth c hc hk H locs lsA hP hS hl
  exact lv_imul hc.1 hc.2.1 d (kk p e s m args below meth c hc hk H locs lsA hP hS hl)
theorem v_iand (q : Nat) {a b : Int32} (r : Int32) (d : decode (mB M) pc = .ok (.iand, 1)) (hq : pc + 1 = q) (hr : a &&& b = r) (kk : V x M Q q ls (.int r :: st) I L P) : V x M Q pc ls (.int b :: .int a :: st) I L P := by
  subst hq
  subst hr
  intro p e s m args below meth c hc hk H locs lsA hP hS hl
  exact lv_iand hc.1 hc.2.1 d (kk p e s m args below meth c hc hk H locs lsA hP hS hl)
theorem v_ior (q : Nat) {a b : Int32} (r : Int32) (d : decode (mB M) pc = .ok (.ior, 1)) (hq : pc + 1 = q) (hr : a ||| b = r) (kk : V x M Q q ls (.int r :: st) I L P) : V x M Q pc ls (.int b :: .int a :: st) I L P := by
  subst hq
  subst hr
  intro p e s m args below meth c hc hk H locs lsA hP hS hl
  exact lv_ior hc.1 hc.2.1 d (kk p e s m args below meth c hc hk H locs lsA hP hS hl)
theorem v_idiv (q : Nat) {a b : Int32} (r : Int32) (d : decode (mB M) pc = .ok (.idiv, 1)) (hq : pc + 1 = q) (hb : ¬ b = 0) (hr : a / b = r) (kk : V x M Q q ls (.int r :: st) I L P) : V x M Q pc ls (.int b :: .int a :: st) I L P := by
  subst hq
  subst hr
  intro p e s m args below meth c hc hk H locs lsA hP hS hl
  exact lv_idiv hc.1 hc.2.1 d hb (kk p e s m args below meth c hc hk H locs lsA hP hS hl)
theorem v_irem (q : Nat) {a b : Int32} (r : Int32) (d : decode (mB M) pc = .ok (.irem, 1)) (hq : pc + 1 = q) (hb : ¬ b = 0) (hr : a - a / b * b = r) (kk : V x M Q q ls (.int r :: st) I L P) : V x M Q pc ls (.int b :: .int a :: st) I L P := by
  subst hq
  subst hr
  intro p e s m args below meth c hc hk H locs lsA hP hS hl
  exact lv_irem hc.1 hc.2.1 d hb (kk p e s m args below meth c hc hk H locs lsA hP hS hl)
theorem v_ishl (q : Nat) {a b : Int32} (r : Int32) (d : decode (mB M) pc = .ok (.ishl, 1)) (hq : pc + 1 = q) (hr : a <<< (b &&& 31) = r) (kk : V x M Q q ls (.int r :: st) I L P) : V x M Q pc ls (.int b :: .int a :: st) I L P := by
  subst hq
  subst hr
  intro p e s m args below meth c hc hk H locs lsA hP hS hl
  exact lv_ishl hc.1 hc.2.1 d (kk p e s m args below meth c hc hk H locs lsA hP hS hl)
theorem v_ishr (q : Nat) {a b : Int32} (r : Int32) (d : decode (mB M) pc = .ok (.ishr, 1)) (hq : pc + 1 = q) (hr : a >>> (b &&& 31) = r) (kk : V x M Q q ls (.int r :: st) I L P) : V x M Q pc ls (.int b :: .int a :: st) I L P := by
  subst hq
  subst hr
  intro p e s m args below meth c hc hk H locs lsA hP hS hl
  exact lv_ishr hc.1 hc.2.1 d (kk p e s m args below meth c hc hk H locs lsA hP hS hl)
theorem v_ladd (q : Nat) {a b : Int64} (r : Int64) (d : decode (mB M) pc = .ok (.ladd, 1)) (hq : pc + 1 = q) (hr : a + b = r) (kk : V x M Q q ls (.long r :: st) I L P) : V x M Q pc ls (.long b :: .long a :: st) I L P := by
  subst hq
  subst hr
  intro p e s m args below meth c hc hk H locs lsA hP hS hl
  exact lv_ladd hc.1 hc.2.1 d (kk p e s m args below meth c hc hk H locs lsA hP hS hl)
theorem v_lsub (q : Nat) {a b : Int64} (r : Int64) (d : decode (mB M) pc = .ok (.lsub, 1)) (hq : pc + 1 = q) (hr : a - b = r) (kk : V x M Q q ls (.long r :: st) I L P) : V x M Q pc ls (.long b :: .long a :: st) I L P := by
  subst hq
  subst hr
  intro p e s m args below meth c hc hk H locs lsA hP hS hl
  exact lv_lsub hc.1 hc.2.1 d (kk p e s m args below meth c hc hk H locs lsA hP hS hl)
theorem v_lmul (q : Nat) {a b : Int64} (r : Int64) (d : decode (mB M) pc = .ok (.lmul, 1)) (hq : pc + 1 = q) (hr : a * b = r) (kk : V x M Q q ls (.long r :: st) I L P) : V x M Q pc ls (.long b :: .long a :: st) I L P := by
  subst hq
  subst hr
  intro p e s m args below meth c hc hk H locs lsA hP hS hl
  exact lv_lmul hc.1 hc.2.1 d (kk p e s m args below meth c hc hk H locs lsA hP hS hl)
theorem v_ldiv (q : Nat) {a b : Int64} (r : Int64) (d : decode (mB M) pc = .ok (.ldiv, 1)) (hq : pc + 1 = q) (hb : ¬ b = 0) (hr : a / b = r) (kk : V x M Q q ls (.long r :: st) I L P) : V x M Q pc ls (.long b :: .long a :: st) I L P := by
  subst hq
  subst hr
  intro p e s m args below meth c hc hk H locs lsA hP hS hl
  exact lv_ldiv hc.1 hc.2.1 d hb (kk p e s m args below meth c hc hk H locs lsA hP hS hl)
theorem v_lrem (q : Nat) {a b : Int64} (r : Int64) (d : decode (mB M) pc = .ok (.lrem, 1)) (hq : pc + 1 = q) (hb : ¬ b = 0) (hr : a - a / b * b = r) (kk : V x M Q q ls (.long r :: st) I L P) : V x M Q pc ls (.long b :: .long a :: st) I L P := by
  subst hq
  subst hr
  intro p e s m args below meth c hc hk H locs lsA hP hS hl
  exact lv_lrem hc.1 hc.2.1 d hb (kk p e s m args below meth c hc hk H locs lsA hP hS hl)
theorem v_i2l (q : Nat) {a : Int32} (r : Int64) (d : decode (mB M) pc = .ok (.i2l, 1)) (hq : pc + 1 = q) (hr : a.toInt64 = r) (kk : V x M Q q ls (.long r :: st) I L P) : V x M Q pc ls (.int a :: st) I L P := by
  subst hq
  intro p e s m args below meth c hc hk H locs lsA hP hS hl
  exact lv_i2l hc.1 hc.2.1 d hr (kk p e s m args below meth c hc hk H locs lsA hP hS hl)
theorem v_l2i (q : Nat) {a : Int64} (r : Int32) (d : decode (mB M) pc = .ok (.l2i, 1)) (hq : pc + 1 = q) (hr : a.toInt32 = r) (kk : V x M Q q ls (.int r :: st) I L P) : V x M Q pc ls (.long a :: st) I L P := by
  subst hq
  intro p e s m args below meth c hc hk H locs lsA hP hS hl
  exact lv_l2i hc.1 hc.2.1 d hr (kk p e s m args below meth c hc hk H locs lsA hP hS hl)
theorem v_i2c (q : Nat) {a : Int32} (r : Int32) (d : decode (mB M) pc = .ok (.i2c, 1)) (hq : pc + 1 = q) (hr : (a.toUInt32 % 65536).toInt32 = r) (kk : V x M Q q ls (.int r :: st) I L P) : V x M Q pc ls (.int a :: st) I L P := by
  subst hq
  intro p e s m args below meth c hc hk H locs lsA hP hS hl
  exact lv_i2c hc.1 hc.2.1 d hr (kk p e s m args below meth c hc hk H locs lsA hP hS hl)
theorem v_dup (q : Nat) {a : Value} (d : decode (mB M) pc = .ok (.dup, 1)) (hq : pc + 1 = q) (ha : a.category = 1) (kk : V x M Q q ls (a :: a :: st) I L P) : V x M Q pc ls (a :: st) I L P := by
  subst hq
  intro p e s m args below meth c hc hk H locs lsA hP hS hl
  exact lv_dup hc.1 hc.2.1 d ha (kk p e s m args below meth c hc hk H locs lsA hP hS hl)
theorem v_dup2 (q : Nat) {a b : Value} (d : decode (mB M) pc = .ok (.dup2, 1)) (hq : pc + 1 = q) (ha : a.category = 1) (hb : b.category = 1) (kk : V x M Q q ls (a :: b :: a :: b :: st) I L P) : V x M Q pc ls (a :: b :: st) I L P := by
  subst hq
  intro p e s m args below meth c hc hk H locs lsA hP hS hl
  exact lv_dup2_11 hc.1 hc.2.1 d ha hb (kk p e s m args below meth c hc hk H locs lsA hP hS hl)
theorem v_goto (q : Nat) {off : Int} (d : decode (mB M) pc = .ok (.goto off, 3)) (ht : (pc : Int) + off = (q : Int)) (kk : V x M Q q ls st I L P) : V x M Q pc ls st I L P := by
  intro p e s m args below meth c hc hk H locs lsA hP hS hl
  exact lv_goto hc.1 hc.2.1 d ht (kk p e s m args below meth c hc hk H locs lsA hP hS hl)
theorem v_if_eq (t q : Nat) {a : Int32} {off : Int} (d : decode (mB M) pc = .ok (.ifCond .eq off, 3)) (ht : (pc : Int) + off = (t : Int)) (hq : pc + 3 = q) (kt : a = 0 → V x M Q t ls st I L P) (kf : ¬ (a = 0) → V x M Q q ls st I L P) : V x M Q pc ls (.int a :: st) I L P := by
  subst hq
  intro p e s m args below meth c hc hk H locs lsA hP hS hl
  exact lv_if_eq hc.1 hc.2.1 d ht (fun h => kt h p e s m args below meth c hc hk H locs lsA hP hS hl) (fun h => kf h p e s m args below meth c hc hk H locs lsA hP hS hl)
theorem v_if_ne (t q : Nat) {a : Int32} {off : Int} (d : decode (mB M) pc = .ok (.ifCond .ne off, 3)) (ht : (pc : Int) + off = (t : Int)) (hq : pc + 3 = q) (kt : ¬ a = 0 → V x M Q t ls st I L P) (kf : a = 0 → V x M Q q ls st I L P) : V x M Q pc ls (.int a :: st) I L P := by
  subst hq
  intro p e s m args below meth c hc hk H locs lsA hP hS hl
  exact lv_if_ne hc.1 hc.2.1 d ht (fun h => kt h p e s m args below meth c hc hk H locs lsA hP hS hl) (fun h => kf h p e s m args below meth c hc hk H locs lsA hP hS hl)
theorem v_if_lt (t q : Nat) {a : Int32} {off : Int} (d : decode (mB M) pc = .ok (.ifCond .lt off, 3)) (ht : (pc : Int) + off = (t : Int)) (hq : pc + 3 = q) (kt : a < 0 → V x M Q t ls st I L P) (kf : ¬ (a < 0) → V x M Q q ls st I L P) : V x M Q pc ls (.int a :: st) I L P := by
  subst hq
  intro p e s m args below meth c hc hk H locs lsA hP hS hl
  exact lv_if_lt hc.1 hc.2.1 d ht (fun h => kt h p e s m args below meth c hc hk H locs lsA hP hS hl) (fun h => kf h p e s m args below meth c hc hk H locs lsA hP hS hl)
theorem v_if_ge (t q : Nat) {a : Int32} {off : Int} (d : decode (mB M) pc = .ok (.ifCond .ge off, 3)) (ht : (pc : Int) + off = (t : Int)) (hq : pc + 3 = q) (kt : 0 ≤ a → V x M Q t ls st I L P) (kf : ¬ (0 ≤ a) → V x M Q q ls st I L P) : V x M Q pc ls (.int a :: st) I L P := by
  subst hq
  intro p e s m args below meth c hc hk H locs lsA hP hS hl
  exact lv_if_ge hc.1 hc.2.1 d ht (fun h => kt h p e s m args below meth c hc hk H locs lsA hP hS hl) (fun h => kf h p e s m args below meth c hc hk H locs lsA hP hS hl)
theorem v_if_gt (t q : Nat) {a : Int32} {off : Int} (d : decode (mB M) pc = .ok (.ifCond .gt off, 3)) (ht : (pc : Int) + off = (t : Int)) (hq : pc + 3 = q) (kt : 0 < a → V x M Q t ls st I L P) (kf : ¬ (0 < a) → V x M Q q ls st I L P) : V x M Q pc ls (.int a :: st) I L P := by
  subst hq
  intro p e s m args below meth c hc hk H locs lsA hP hS hl
  exact lv_if_gt hc.1 hc.2.1 d ht (fun h => kt h p e s m args below meth c hc hk H locs lsA hP hS hl) (fun h => kf h p e s m args below meth c hc hk H locs lsA hP hS hl)
theorem v_if_le (t q : Nat) {a : Int32} {off : Int} (d : decode (mB M) pc = .ok (.ifCond .le off, 3)) (ht : (pc : Int) + off = (t : Int)) (hq : pc + 3 = q) (kt : a ≤ 0 → V x M Q t ls st I L P) (kf : ¬ (a ≤ 0) → V x M Q q ls st I L P) : V x M Q pc ls (.int a :: st) I L P := by
  subst hq
  intro p e s m args below meth c hc hk H locs lsA hP hS hl
  exact lv_if_le hc.1 hc.2.1 d ht (fun h => kt h p e s m args below meth c hc hk H locs lsA hP hS hl) (fun h => kf h p e s m args below meth c hc hk H locs lsA hP hS hl)
theorem v_icmp_eq (t q : Nat) {a b : Int32} {off : Int} (d : decode (mB M) pc = .ok (.if_icmp .eq off, 3)) (ht : (pc : Int) + off = (t : Int)) (hq : pc + 3 = q) (kt : a = b → V x M Q t ls st I L P) (kf : ¬ (a = b) → V x M Q q ls st I L P) : V x M Q pc ls (.int b :: .int a :: st) I L P := by
  subst hq
  intro p e s m args below meth c hc hk H locs lsA hP hS hl
  exact lv_icmp_eq hc.1 hc.2.1 d ht (fun h => kt h p e s m args below meth c hc hk H locs lsA hP hS hl) (fun h => kf h p e s m args below meth c hc hk H locs lsA hP hS hl)
theorem v_icmp_ne (t q : Nat) {a b : Int32} {off : Int} (d : decode (mB M) pc = .ok (.if_icmp .ne off, 3)) (ht : (pc : Int) + off = (t : Int)) (hq : pc + 3 = q) (kt : ¬ a = b → V x M Q t ls st I L P) (kf : a = b → V x M Q q ls st I L P) : V x M Q pc ls (.int b :: .int a :: st) I L P := by
  subst hq
  intro p e s m args below meth c hc hk H locs lsA hP hS hl
  exact lv_icmp_ne hc.1 hc.2.1 d ht (fun h => kt h p e s m args below meth c hc hk H locs lsA hP hS hl) (fun h => kf h p e s m args below meth c hc hk H locs lsA hP hS hl)
theorem v_icmp_lt (t q : Nat) {a b : Int32} {off : Int} (d : decode (mB M) pc = .ok (.if_icmp .lt off, 3)) (ht : (pc : Int) + off = (t : Int)) (hq : pc + 3 = q) (kt : a < b → V x M Q t ls st I L P) (kf : ¬ (a < b) → V x M Q q ls st I L P) : V x M Q pc ls (.int b :: .int a :: st) I L P := by
  subst hq
  intro p e s m args below meth c hc hk H locs lsA hP hS hl
  exact lv_icmp_lt hc.1 hc.2.1 d ht (fun h => kt h p e s m args below meth c hc hk H locs lsA hP hS hl) (fun h => kf h p e s m args below meth c hc hk H locs lsA hP hS hl)
theorem v_icmp_ge (t q : Nat) {a b : Int32} {off : Int} (d : decode (mB M) pc = .ok (.if_icmp .ge off, 3)) (ht : (pc : Int) + off = (t : Int)) (hq : pc + 3 = q) (kt : b ≤ a → V x M Q t ls st I L P) (kf : ¬ (b ≤ a) → V x M Q q ls st I L P) : V x M Q pc ls (.int b :: .int a :: st) I L P := by
  subst hq
  intro p e s m args below meth c hc hk H locs lsA hP hS hl
  exact lv_icmp_ge hc.1 hc.2.1 d ht (fun h => kt h p e s m args below meth c hc hk H locs lsA hP hS hl) (fun h => kf h p e s m args below meth c hc hk H locs lsA hP hS hl)
theorem v_icmp_gt (t q : Nat) {a b : Int32} {off : Int} (d : decode (mB M) pc = .ok (.if_icmp .gt off, 3)) (ht : (pc : Int) + off = (t : Int)) (hq : pc + 3 = q) (kt : b < a → V x M Q t ls st I L P) (kf : ¬ (b < a) → V x M Q q ls st I L P) : V x M Q pc ls (.int b :: .int a :: st) I L P := by
  subst hq
  intro p e s m args below meth c hc hk H locs lsA hP hS hl
  exact lv_icmp_gt hc.1 hc.2.1 d ht (fun h => kt h p e s m args below meth c hc hk H locs lsA hP hS hl) (fun h => kf h p e s m args below meth c hc hk H locs lsA hP hS hl)
theorem v_icmp_le (t q : Nat) {a b : Int32} {off : Int} (d : decode (mB M) pc = .ok (.if_icmp .le off, 3)) (ht : (pc : Int) + off = (t : Int)) (hq : pc + 3 = q) (kt : a ≤ b → V x M Q t ls st I L P) (kf : ¬ (a ≤ b) → V x M Q q ls st I L P) : V x M Q pc ls (.int b :: .int a :: st) I L P := by
  subst hq
  intro p e s m args below meth c hc hk H locs lsA hP hS hl
  exact lv_icmp_le hc.1 hc.2.1 d ht (fun h => kt h p e s m args below meth c hc hk H locs lsA hP hS hl) (fun h => kf h p e s m args below meth c hc hk H locs lsA hP hS hl)
theorem v_lcmp (q : Nat) {a b : Int64} (d : decode (mB M) pc = .ok (.lcmp, 1)) (hq : pc + 1 = q) (kk : V x M Q q ls (.int (lg_cmp a b) :: st) I L P) : V x M Q pc ls (.long b :: .long a :: st) I L P := by
  subst hq
  intro p e s m args below meth c hc hk H locs lsA hP hS hl
  exact W.lcmp hc.1 hc.2.1 d (kk p e s m args below meth c hc hk H locs lsA hP hS hl)
theorem v_ldc2 (q : Nat) (v : Int64) {index : Nat} (d : decode (mB M) pc = .ok (.ldc2_w index, 3)) (hq : pc + 3 = q) (hw : Cond.constantLong (mY M).cls index v ∈ TB) (kk : V x M Q q ls (.long v :: st) I L P) : V x M Q pc ls st I L P := by
  subst hq
  intro p e s m args below meth c hc hk H locs lsA hP hS hl
  exact lv_ldc2 hc.1 hc.2.1 hc.2.2.2.2.1 (hc.2.2.2.2.2.1 _ (List.mem_cons_of_mem _ hw)) d (kk p e s m args below meth c hc hk H locs lsA hP hS hl)
theorem v_ldc (q : Nat) (v : Int32) {index : Nat} (d : decode (mB M) pc = .ok (.ldc index, 2)) (hq : pc + 2 = q) (hw : Cond.constant (mY M).cls index v ∈ TB) (kk : V x M Q q ls (.int v :: st) I L P) : V x M Q pc ls st I L P := by
  subst hq
  intro p e s m args below meth c hc hk H locs lsA hP hS hl
  exact lv_ldc hc.1 hc.2.1 hc.2.2.2.2.1 (hc.2.2.2.2.2.1 _ (List.mem_cons_of_mem _ hw)) d (kk p e s m args below meth c hc hk H locs lsA hP hS hl)
/-! fields -/
def vC (ci : Nat) : String := match ci with
  | 0 => RX0 | 1 => RX1 | 2 => RX2 | 3 => RX3 | 4 => RX4 | 5 => RX5 | 6 => RX6 | 7 => RX7 | _ => RX8
def vT (ci : Nat) : u_T := match ci with
  | 0 => TX0 | 1 => TX1 | 2 => TX2 | 3 => TX3 | 4 => TX4 | 5 => TX5 | 6 => TX6 | 7 => TX7 | _ => TX8
def vY (ci : Nat) : Nat → FieldType := match ci with
  | 0 => tyX0 | 1 => tyX1 | 2 => tyX2 | 3 => tyX3 | 4 => tyX4 | 5 => tyX5 | 6 => tyX6 | 7 => tyX7 | _ => tyX8
theorem v_cl {ci : Nat} (h : ci < 9) : vwCl[ci]? = some (vC ci, vT ci, nf ci) := by
  match ci, h with
  | 0, _ => rfl
  | 1, _ => rfl
  | 2, _ => rfl
  | 3, _ => rfl
  | 4, _ => rfl
  | 5, _ => rfl
  | 6, _ => rfl
  | 7, _ => rfl
  | 8, _ => rfl
theorem v_wi {ci : Nat} (h : ci < 9) : ∀ w ∈ u_ws (vC ci) (vT ci) (nf ci), w ∈ TB := by
  match ci, h with
  | 0, _ => exact wi_X0
  | 1, _ => exact wi_X1
  | 2, _ => exact wi_X2
  | 3, _ => exact wi_X3
  | 4, _ => exact wi_X4
  | 5, _ => exact wi_X5
  | 6, _ => exact wi_X6
  | 7, _ => exact wi_X7
  | 8, _ => exact wi_X8
theorem v_ty {ci : Nat} (h : ci < 9) : ∀ k, k < nf ci → parseFieldDescriptor (vT ci k).2.2.1 = some (vY ci k) := by
  match ci, h with
  | 0, _ => exact tyX0_ok
  | 1, _ => exact tyX1_ok
  | 2, _ => exact tyX2_ok
  | 3, _ => exact tyX3_ok
  | 4, _ => exact tyX4_ok
  | 5, _ => exact tyX5_ok
  | 6, _ => exact tyX6_ok
  | 7, _ => exact tyX7_ok
  | 8, _ => exact tyX8_ok
theorem v_nm {ci : Nat} (h : ci < 9) : ∀ a, a < nf ci → ∀ b, b < nf ci → a ≠ b → (vT ci a).2.1 ≠ (vT ci b).2.1 := by
  match ci, h with
  | 0, _ => exact nmX0
  | 1, _ => exact nmX1
  | 2, _ => exact nmX2
  | 3, _ => exact nmX3
  | 4, _ => exact nmX4
  | 5, _ => exact nmX5
  | 6, _ => exact nmX6
  | 7, _ => exact nmX7
  | 8, _ => exact nmX8
theorem cE_obj {i ci : Nat} (h : hs i = (0, ci)) : cE x I L P i = .inr (ci, (List.range (nf ci)).map (fvl x ci i I L)) := by
  simp [cE, h]
theorem cE_i {i n : Nat} (h : hs i = (1, n)) : cE x I L P i = .inl (x_I x, n, .inl (I i)) := by
  simp [cE, h]
theorem cE_c {i n : Nat} (h : hs i = (2, n)) : cE x I L P i = .inl (x_C x, n, .inl (I i)) := by
  simp [cE, h]
theorem cE_l {i n : Nat} (h : hs i = (3, n)) : cE x I L P i = .inl (x_J x, n, .inr (.inl (L i))) := by
  simp [cE, h]
theorem cE_r {i n : Nat} (h : hs i = (4, n)) : cE x I L P i = .inl (x_R x, n, .inr (.inr (.inr (.inr (fun j => some (x_ad x (P j))))))) := by
  simp [cE, h]
theorem cE_same {i : Nat} {I' : Iv} {L' : Lv} (hI : I' i = I i) (hL : L' i = L i) : cE x I' L' P i = cE x I L P i := by
  have e : ∀ ci, fvl x ci i I' L' = fvl x ci i I L := fun ci => funext fun k => by simp only [fvl, hI, hL]
  simp only [cE, hI, hL, e]
def up2 {α : Type} (f : Nat → Nat → α) (i k : Nat) (a : α) : Nat → Nat → α := fun p q => if p = i ∧ q = k then a else f p q
theorem up2_ne {α : Type} {f : Nat → Nat → α} {i k j : Nat} {a : α} (h : j ≠ i) : up2 f i k a j = f j := by
  funext q
  simp [up2, h]
theorem up2_upd {f : Iv} {i k : Nat} {a : Int32} : up2 f i k a i = upd (f i) k a := by
  funext q
  simp [up2, upd]
theorem up2_updL {f : Lv} {i k : Nat} {a : Int64} : up2 f i k a i = vp_updL (f i) k a := by
  funext q
  simp [up2, vp_updL]
theorem fvl_set {ci i k n : Nat} {I' : Iv} {L' : Lv} {v : Value} (hk : k < n) (h1 : fvl x ci i I' L' k = v) (h2 : ∀ j, j ≠ k → fvl x ci i I' L' j = fvl x ci i I L j) : (List.range n).map (fvl x ci i I' L') = ((List.range n).map (fvl x ci i I L)).set k v := by
  apply List.ext_getElem?
  intro j
  rw [List.getElem?_set]
  by_cases e : k = j
  · subst e
    simp [hk, h1]
  · rw [if_neg e]
    by_cases hj : j < n
    · simp [hj, h2 j (fun q => e q.symm)]
    · simp [hj]

theorem v_get (q : Nat) {index i k : Nat} (ci : Nat) (v : Value) (hi : i < 54) (hs1 : hs i = (0, ci)) (hci : ci < 9) (hk1 : k < nf ci) (d : decode (mB M) pc = .ok (.getfield index, 3)) (hq : pc + 3 = q) (hw : Cond.fieldLink (mY M).cls index (vT ci k).1 (vT ci k).2.1 (vT ci k).2.2.1 ∈ TB) (hv : fvl x ci i I L k = v) (kk : V x M Q q ls (v :: st) I L P) : V x M Q pc ls (rfv x i :: st) I L P := by
  subst hq
  intro p e s m args below meth c hc hk H locs lsA hP hS hl
  exact va_get hc.1 hc.2.1 (Ts := TB) (fun w hw => hc.2.2.2.2.2.1 w (List.mem_cons_of_mem _ hw)) (v_wi hci) hc.2.2.2.2.1 hk.1 hP i ((wl_get hi).trans (by rw [cE_obj hs1])) (v_cl hci) k hk1 (hc.2.2.2.2.2.1 _ (List.mem_cons_of_mem _ hw)) (fun _ h9 => h9) (v := v) (by simp [hk1, hv]) d (kk p e s m args below meth c hc hk H locs lsA hP hS hl)
theorem v_putI (q : Nat) {index i k : Nat} (ci : Nat) {a : Int32} (ty : FieldType) (hi : i < 54) (hs1 : hs i = (0, ci)) (hci : ci < 9) (hk1 : k < nf ci) (hfin : (vT ci k).2.2.2 = false) (hd : parseFieldDescriptor (vT ci k).2.2.1 = some ty) (hn : narrow ty (.int a) = .int a) (hft : fits ty (.int a) = true) (hfv : ∀ (I9 : Iv) (L9 : Lv), fvl x ci i I9 L9 k = .int (I9 i k)) (d : decode (mB M) pc = .ok (.putfield index, 3)) (hq : pc + 3 = q) (hw : Cond.fieldLink (mY M).cls index (vT ci k).1 (vT ci k).2.1 (vT ci k).2.2.1 ∈ TB) (kk : ∀ Z, Z = up2 I i k a → V x M Q q ls st Z L P) : V x M Q pc ls (.int a :: rfv x i :: st) I L P := by
  subst hq
  intro p e s m args below meth c hc hk H locs lsA hP hS hl
  refine va_put hc.1 hc.2.1 (Ts := TB) (fun w hw => hc.2.2.2.2.2.1 w (List.mem_cons_of_mem _ hw)) (v_wi hci) (vY ci) (v_ty hci) (v_nm hci) hc.2.2.2.2.1 hk.1 hP (wl_D _ hk.2.2) hS i ((wl_get hi).trans (by rw [cE_obj hs1])) (v_cl hci) k hk1 (hc.2.2.2.2.2.1 _ (List.mem_cons_of_mem _ hw)) (fun _ h9 => h9) hfin hd hn hft (by simp [hk1]) d (fun H1 locs1 hP1 _ hS1 => ?_)
  rw [wl_set (E' := cE x (up2 I i k a) L P) hi (by rw [cE_obj hs1, fvl_set (I := I) (L := L) (v := .int a) hk1 ((hfv _ _).trans (by simp [up2])) (fun j hj => by simp only [fvl, up2, hj, and_false, if_false])]) (fun j hj => cE_same (up2_ne hj) rfl)] at hP1
  exact kk _ rfl p e s m args below meth c hc hk H1 locs1 lsA hP1 hS1 hl
theorem v_putL (q : Nat) {index i k : Nat} (ci : Nat) {a : Int64} (ty : FieldType) (hi : i < 54) (hs1 : hs i = (0, ci)) (hci : ci < 9) (hk1 : k < nf ci) (hfin : (vT ci k).2.2.2 = false) (hd : parseFieldDescriptor (vT ci k).2.2.1 = some ty) (hn : narrow ty (.long a) = .long a) (hft : fits ty (.long a) = true) (hfv : ∀ (I9 : Iv) (L9 : Lv), fvl x ci i I9 L9 k = .long (L9 i k)) (d : decode (mB M) pc = .ok (.putfield index, 3)) (hq : pc + 3 = q) (hw : Cond.fieldLink (mY M).cls index (vT ci k).1 (vT ci k).2.1 (vT ci k).2.2.1 ∈ TB) (kk : ∀ Z, Z = up2 L i k a → V x M Q q ls st I Z P) : V x M Q pc ls (.long a :: rfv x i :: st) I L P := by
  subst hq
  intro p e s m args below meth c hc hk H locs lsA hP hS hl
  refine va_put hc.1 hc.2.1 (Ts := TB) (fun w hw => hc.2.2.2.2.2.1 w (List.mem_cons_of_mem _ hw)) (v_wi hci) (vY ci) (v_ty hci) (v_nm hci) hc.2.2.2.2.1 hk.1 hP (wl_D _ hk.2.2) hS i ((wl_get hi).trans (by rw [cE_obj hs1])) (v_cl hci) k hk1 (hc.2.2.2.2.2.1 _ (List.mem_cons_of_mem _ hw)) (fun _ h9 => h9) hfin hd hn hft (by simp [hk1]) d (fun H1 locs1 hP1 _ hS1 => ?_)
  rw [wl_set (E' := cE x I (up2 L i k a) P) hi (by rw [cE_obj hs1, fvl_set (I := I) (L := L) (v := .long a) hk1 ((hfv _ _).trans (by simp [up2])) (fun j hj => by simp only [fvl, up2, hj, and_false, if_false])]) (fun j hj => cE_same rfl (up2_ne hj))] at hP1
  exact kk _ rfl p e s m args below meth c hc hk H1 locs1 lsA hP1 hS1 hl
theorem v_getN (q : Nat) {index i k : Nat} (ci : Nat) {host : String} (v : Value) (hi : i < 54) (hs1 : hs i = (0, ci)) (hci : ci < 9) (hk1 : k < nf ci) (d : decode (mB M) pc = .ok (.getfield index, 3)) (hq : pc + 3 = q) (hw : Cond.fieldLinkNest (mY M).cls index (vT ci k).1 (vT ci k).2.1 (vT ci k).2.2.1 host ∈ nestW) (hv : fvl x ci i I L k = v) (kk : V x M Q q ls (v :: st) I L P) : V x M Q pc ls (rfv x i :: st) I L P := by
  subst hq
  intro p e s m args below meth c hc hk H locs lsA hP hS hl
  exact va_getN hc.1 hc.2.1 (Ts := TB) (fun w hw => hc.2.2.2.2.2.1 w (List.mem_cons_of_mem _ hw)) (v_wi hci) hc.2.2.2.2.1 hk.1 hP i ((wl_get hi).trans (by rw [cE_obj hs1])) (v_cl hci) k hk1 (va_Nw.use rfl (hk.2.1 _ hw)) (fun _ h9 => h9) (v := v) (by simp [hk1, hv]) d (kk p e s m args below meth c hc hk H locs lsA hP hS hl)
theorem v_putIN (q : Nat) {index i k : Nat} (ci : Nat) {host : String} {a : Int32} (ty : FieldType) (hi : i < 54) (hs1 : hs i = (0, ci)) (hci : ci < 9) (hk1 : k < nf ci) (hfin : (vT ci k).2.2.2 = false) (hd : parseFieldDescriptor (vT ci k).2.2.1 = some ty) (hn : narrow ty (.int a) = .int a) (hft : fits ty (.int a) = true) (hfv : ∀ (I9 : Iv) (L9 : Lv), fvl x ci i I9 L9 k = .int (I9 i k)) (d : decode (mB M) pc = .ok (.putfield index, 3)) (hq : pc + 3 = q) (hw : Cond.fieldLinkNest (mY M).cls index (vT ci k).1 (vT ci k).2.1 (vT ci k).2.2.1 host ∈ nestW) (kk : ∀ Z, Z = up2 I i k a → V x M Q q ls st Z L P) : V x M Q pc ls (.int a :: rfv x i :: st) I L P := by
  subst hq
  intro p e s m args below meth c hc hk H locs lsA hP hS hl
  refine va_putN hc.1 hc.2.1 (Ts := TB) (fun w hw => hc.2.2.2.2.2.1 w (List.mem_cons_of_mem _ hw)) (v_wi hci) (vY ci) (v_ty hci) (v_nm hci) hc.2.2.2.2.1 hk.1 hP (wl_D _ hk.2.2) hS i ((wl_get hi).trans (by rw [cE_obj hs1])) (v_cl hci) k hk1 (va_Nw.use rfl (hk.2.1 _ hw)) (fun _ h9 => h9) hfin hd hn hft (by simp [hk1]) d (fun H1 locs1 hP1 _ hS1 => ?_)
  rw [wl_set (E' := cE x (up2 I i k a) L P) hi (by rw [cE_obj hs1, fvl_set (I := I) (L := L) (v := .int a) hk1 ((hfv _ _).trans (by simp [up2])) (fun j hj => by simp only [fvl, up2, hj, and_false, if_false])]) (fun j hj => cE_same (up2_ne hj) rfl)] at hP1
  exact kk _ rfl p e s m args below meth c hc hk H1 locs1 lsA hP1 hS1 hl
theorem v_putLN (q : Nat) {index i k : Nat} (ci : Nat) {host : String} {a : Int64} (ty : FieldType) (hi : i < 54) (hs1 : hs i = (0, ci)) (hci : ci < 9) (hk1 : k < nf ci) (hfin : (vT ci k).2.2.2 = false) (hd : parseFieldDescriptor (vT ci k).2.2.1 = some ty) (hn : narrow ty (.long a) = .long a) (hft : fits ty (.long a) = true) (hfv : ∀ (I9 : Iv) (L9 : Lv), fvl x ci i I9 L9 k = .long (L9 i k)) (d : decode (mB M) pc = .ok (.putfield index, 3)) (hq : pc + 3 = q) (hw : Cond.fieldLinkNest (mY M).cls index (vT ci k).1 (vT ci k).2.1 (vT ci k).2.2.1 host ∈ nestW) (kk : ∀ Z, Z = up2 L i k a → V x M Q q ls st I Z P) : V x M Q pc ls (.long a :: rfv x i :: st) I L P := by
  subst hq
  intro p e s m args below meth c hc hk H locs lsA hP hS hl
  refine va_putN hc.1 hc.2.1 (Ts := TB) (fun w hw => hc.2.2.2.2.2.1 w (List.mem_cons_of_mem _ hw)) (v_wi hci) (vY ci) (v_ty hci) (v_nm hci) hc.2.2.2.2.1 hk.1 hP (wl_D _ hk.2.2) hS i ((wl_get hi).trans (by rw [cE_obj hs1])) (v_cl hci) k hk1 (va_Nw.use rfl (hk.2.1 _ hw)) (fun _ h9 => h9) hfin hd hn hft (by simp [hk1]) d (fun H1 locs1 hP1 _ hS1 => ?_)
  rw [wl_set (E' := cE x I (up2 L i k a) P) hi (by rw [cE_obj hs1, fvl_set (I := I) (L := L) (v := .long a) hk1 ((hfv _ _).trans (by simp [up2])) (fun j hj => by simp only [fvl, up2, hj, and_false, if_false])]) (fun j hj => cE_same rfl (up2_ne hj))] at hP1
  exact kk _ rfl p e s m args below meth c hc hk H1 locs1 lsA hP1 hS1 hl
/-! rows of arrays -/
theorem v_iald (q : Nat) {i n k : Nat} {j : Int32} (a : Int32) (hi : i < 54) (hs1 : hs i = (1, n)) (hb : n < 2147483648) (d : decode (mB M) pc = .ok (.iaload, 1)) (hq : pc + 1 = q) (hj : j = nI k) (hk1 : k < n) (hv : I i k = a) (kk : V x M Q q ls (.int a :: st) I L P) : V x M Q pc ls (.int j :: rfv x i :: st) I L P := by
  subst hq
  subst hj
  subst hv
  intro p e s m args below meth c hc hk H locs lsA hP hS hl
  refine va_iald hc.1 hc.2.1 hk.1 hP i 0 ((wl_get hi).trans (by rw [cE_i hs1])) rfl (vp_in_nI hk1 hb) d ?_
  rw [nI_clamp (Nat.lt_trans hk1 hb)]
  exact kk p e s m args below meth c hc hk H locs lsA hP hS hl
theorem v_iast (q : Nat) {i n k : Nat} {j : Int32} {a : Int32} (b : Int32) (hi : i < 54) (hs1 : hs i = (1, n)) (hb : n < 2147483648) (d : decode (mB M) pc = .ok (.iastore, 1)) (hq : pc + 1 = q) (hj : j = nI k) (hk1 : k < n) (hb2 : a = b) (kk : ∀ Z, Z = up2 I i k b → V x M Q q ls st Z L P) : V x M Q pc ls (.int a :: .int j :: rfv x i :: st) I L P := by
  subst hq
  subst hj
  subst hb2
  intro p e s m args below meth c hc hk H locs lsA hP hS hl
  refine va_iast hc.1 hc.2.1 hk.1 hP (wl_D _ hk.2.2) hS i 0 ((wl_get hi).trans (by rw [cE_i hs1])) rfl (vp_in_nI hk1 hb) d (fun H1 locs1 hP1 _ hS1 => ?_)
  rw [nI_clamp (Nat.lt_trans hk1 hb), wl_set (E' := cE x (up2 I i k a) L P) hi (by rw [cE_i hs1, up2_upd]) (fun j hj => cE_same (up2_ne hj) rfl)] at hP1
  exact kk _ rfl p e s m args below meth c hc hk H1 locs1 lsA hP1 hS1 hl
theorem v_cald (q : Nat) {i n k : Nat} {j : Int32} (a : Int32) (hi : i < 54) (hs1 : hs i = (2, n)) (hb : n < 2147483648) (d : decode (mB M) pc = .ok (.caload, 1)) (hq : pc + 1 = q) (hj : j = nI k) (hk1 : k < n) (hv : I i k = a) (kk : V x M Q q ls (.int a :: st) I L P) : V x M Q pc ls (.int j :: rfv x i :: st) I L P := by
  subst hq
  subst hj
  subst hv
  intro p e s m args below meth c hc hk H locs lsA hP hS hl
  refine va_cald hc.1 hc.2.1 hk.1 hP i 1 ((wl_get hi).trans (by rw [cE_c hs1])) rfl (vp_in_nI hk1 hb) d ?_
  rw [nI_clamp (Nat.lt_trans hk1 hb)]
  exact kk p e s m args below meth c hc hk H locs lsA hP hS hl
theorem v_cast (q : Nat) {i n k : Nat} {j : Int32} {a : Int32} (b : Int32) (hi : i < 54) (hs1 : hs i = (2, n)) (hb : n < 2147483648) (d : decode (mB M) pc = .ok (.castore, 1)) (hq : pc + 1 = q) (hj : j = nI k) (hk1 : k < n) (hb2 : vp_nar .char a = b) (kk : ∀ Z, Z = up2 I i k b → V x M Q q ls st Z L P) : V x M Q pc ls (.int a :: .int j :: rfv x i :: st) I L P := by
  subst hq
  subst hj
  subst hb2
  intro p e s m args below meth c hc hk H locs lsA hP hS hl
  refine va_cast hc.1 hc.2.1 hk.1 hP (wl_D _ hk.2.2) hS i 1 ((wl_get hi).trans (by rw [cE_c hs1])) rfl (vp_in_nI hk1 hb) d (fun H1 locs1 hP1 _ hS1 => ?_)
  rw [nI_clamp (Nat.lt_trans hk1 hb), wl_set (E' := cE x (up2 I i k (vp_nar .char a)) L P) hi (by rw [cE_c hs1, up2_upd]) (fun j hj => cE_same (up2_ne hj) rfl)] at hP1
  exact kk _ rfl p e s m args below meth c hc hk H1 locs1 lsA hP1 hS1 hl
theorem v_lald (q : Nat) {i n k : Nat} {j : Int32} (a : Int64) (hi : i < 54) (hs1 : hs i = (3, n)) (hb : n < 2147483648) (d : decode (mB M) pc = .ok (.laload, 1)) (hq : pc + 1 = q) (hj : j = nI k) (hk1 : k < n) (hv : L i k = a) (kk : V x M Q q ls (.long a :: st) I L P) : V x M Q pc ls (.int j :: rfv x i :: st) I L P := by
  subst hq
  subst hj
  subst hv
  intro p e s m args below meth c hc hk H locs lsA hP hS hl
  refine va_lald hc.1 hc.2.1 hk.1 hP i 2 ((wl_get hi).trans (by rw [cE_l hs1])) rfl (vp_in_nI hk1 hb) d ?_
  rw [nI_clamp (Nat.lt_trans hk1 hb)]
  exact kk p e s m args below meth c hc hk H locs lsA hP hS hl
theorem v_last (q : Nat) {i n k : Nat} {j : Int32} {a : Int64} (hi : i < 54) (hs1 : hs i = (3, n)) (hb : n < 2147483648) (d : decode (mB M) pc = .ok (.lastore, 1)) (hq : pc + 1 = q) (hj : j = nI k) (hk1 : k < n) (kk : ∀ Z, Z = up2 L i k a → V x M Q q ls st I Z P) : V x M Q pc ls (.long a :: .int j :: rfv x i :: st) I L P := by
  subst hq
  subst hj
  intro p e s m args below meth c hc hk H locs lsA hP hS hl
  refine va_last hc.1 hc.2.1 hk.1 hP (wl_D _ hk.2.2) hS i 2 ((wl_get hi).trans (by rw [cE_l hs1])) rfl (vp_in_nI hk1 hb) d (fun H1 locs1 hP1 _ hS1 => ?_)
  rw [nI_clamp (Nat.lt_trans hk1 hb), wl_set (E' := cE x I (up2 L i k a) P) hi (by rw [cE_l hs1, up2_updL]) (fun j hj => cE_same rfl (up2_ne hj))] at hP1
  exact kk _ rfl p e s m args below meth c hc hk H1 locs1 lsA hP1 hS1 hl
theorem v_alen (q : Nat) {i n : Nat} (a : Int32) (hi : i < 54) (hs1 : hs i = (1, n)) (d : decode (mB M) pc = .ok (.arraylength, 1)) (hq : pc + 1 = q) (hv : nI n = a) (kk : V x M Q q ls (.int a :: st) I L P) : V x M Q pc ls (rfv x i :: st) I L P := by
  subst hq
  intro p e s m args below meth c hc hk H locs lsA hP hS hl
  exact va_alen hc.1 hc.2.1 hk.1 hP i 0 ((wl_get hi).trans (by rw [cE_i hs1])) (ty := .int) rfl (show Int32.ofNat n = a from hv) d (kk p e s m args below meth c hc hk H locs lsA hP hS hl)
theorem v_aald (q : Nat) {i n k : Nat} {j : Int32} (a : Nat) (hi : i < 54) (hs1 : hs i = (4, n)) (hb : n < 2147483648) (d : decode (mB M) pc = .ok (.aaload, 1)) (hq : pc + 1 = q) (hj : j = nI k) (hk1 : k < n) (hv : P k = a) (kk : V x M Q q ls (rfv x a :: st) I L P) : V x M Q pc ls (.int j :: rfv x i :: st) I L P := by
  subst hq
  subst hj
  subst hv
  intro p e s m args below meth c hc hk H locs lsA hP hS hl
  refine va_aldq hc.1 hc.2.1 hk.1 hP i 3 ((wl_get hi).trans (by rw [cE_r hs1])) (C := "HiddenRuns$Model") rfl (vp_in_nI hk1 hb) d ?_
  rw [nI_clamp (Nat.lt_trans hk1 hb)]
  exact kk p e s m args below meth c hc hk H locs lsA hP hS hl
theorem cE_P {i : Nat} {P' : Pv} (h : i ≠ 10) (hi : i < 54) : cE x I L P' i = cE x I L P i := by
  have e : (hs i).1 ≠ 4 := (show ∀ i, i < 54 → i ≠ 10 → (hs i).1 ≠ 4 by decide +kernel) i hi h
  have e2 : (hs i).1 = 0 ∨ (hs i).1 = 1 ∨ (hs i).1 = 2 ∨ (hs i).1 = 3 := (show ∀ i, i < 54 → i ≠ 10 → (hs i).1 = 0 ∨ (hs i).1 = 1 ∨ (hs i).1 = 2 ∨ (hs i).1 = 3 by decide +kernel) i hi h
  obtain ⟨a, b⟩ : ∃ y, hs i = y := ⟨_, rfl⟩
  generalize hy : hs i = y at *
  obtain ⟨y1, y2⟩ := y
  simp only at e2
  rcases e2 with rfl | rfl | rfl | rfl <;> simp [cE, hy]
theorem wl_set' {E E' : Nat → va_E} {i : Nat} {e : va_E} (h : i < 54) (h1 : E' i = e) (h2 : ∀ j, j < 54 → j ≠ i → E' j = E j) : (wl x E).set i (x_ad x i, e) = wl x E' := by
  rw [wl_set (E' := fun j => if j = i then e else E j) h (by simp) (fun j hj => by simp [hj])]
  unfold wl
  apply List.map_congr_left
  intro j hj
  have hj2 : j < 54 := List.mem_range.mp hj
  by_cases e0 : j = i
  · subst e0
    simp [h1]
  · simp [e0, h2 j hj2 e0]
theorem v_aast (q : Nat) {k v : Nat} {j : Int32} (hv3 : v < 54) (hs2 : hs v = (0, 3)) (d : decode (mB M) pc = .ok (.aastore, 1)) (hq : pc + 1 = q) (hj : j = nI k) (hk1 : k < 4) (kk : ∀ Z, Z = va_up P k v → V x M Q q ls st I L Z) : V x M Q pc ls (rfv x v :: .int j :: rfv x 10 :: st) I L P := by
  subst hq
  subst hj
  intro p e s m args below meth c hc hk H locs lsA hP hS hl
  refine va_astq hc.1 hc.2.1 hk.1 hP (wl_D _ hk.2.2) hS 10 3 v 3 (r := (RX3, TX3, 6)) ((wl_get (by decide)).trans (by rw [cE_r (i := 10) (n := 4) rfl])) rfl ((wl_get hv3).trans (by rw [cE_obj hs2])) rfl (vp_in_nI hk1 (by decide)) d (fun H1 locs1 hP1 _ hS1 => ?_)
  rw [nI_clamp (Nat.lt_trans hk1 (by decide)), wl_set' (E' := cE x I L (va_up P k v)) (by decide) (by
    rw [cE_r (i := 10) (n := 4) rfl]
    have e9 : (fun j => some (x_ad x (va_up P k v j))) = va_up (fun j => some (x_ad x (P j))) k (some (x_ad x v)) := by
      funext z
      by_cases hz : z = k <;> simp [va_up, hz]
    rw [e9]) (fun j hj hne => cE_P hne hj)] at hP1
  exact kk _ rfl p e s m args below meth c hc hk H1 locs1 lsA hP1 hS1 hl
/-! ends -/
theorem v_iret {a : Int32} (hr : mR M = some .int) (d : decode (mB M) pc = .ok (.ireturn, 1)) (hQ : Q (some (.int a)) I L P) : V x M Q pc ls [.int a] I L P := by
  intro p e s m args below meth c hc hk H locs lsA hP hS hl
  exact W.iret hc.1 hc.2.1 (hc.2.2.1.trans hr) (fun t ht hW => ⟨⟨some (.int a), I, L, P, rfl, hQ, by rw [ht]; exact hP⟩, hS.F ht⟩) hS.2.2 d hc.2.2.2.2.2.2
theorem v_zret {a : Int32} (hr : mR M = some .boolean) (d : decode (mB M) pc = .ok (.ireturn, 1)) (hn : narrow .boolean (.int a) = .int a) (hQ : Q (some (.int a)) I L P) : V x M Q pc ls [.int a] I L P := by
  intro p e s m args below meth c hc hk H locs lsA hP hS hl
  exact W.zret hc.1 hc.2.1 (hc.2.2.1.trans hr) hn (fun t ht hW => ⟨⟨some (.int a), I, L, P, rfl, hQ, by rw [ht]; exact hP⟩, hS.F ht⟩) hS.2.2 d hc.2.2.2.2.2.2
theorem v_lret {a : Int64} (hr : mR M = some .long) (d : decode (mB M) pc = .ok (.lreturn, 1)) (hQ : Q (some (.long a)) I L P) : V x M Q pc ls [.long a] I L P := by
  intro p e s m args below meth c hc hk H locs lsA hP hS hl
  exact W.lret hc.1 hc.2.1 (hc.2.2.1.trans hr) (fun t ht hW => ⟨⟨some (.long a), I, L, P, rfl, hQ, by rw [ht]; exact hP⟩, hS.F ht⟩) hS.2.2 d hc.2.2.2.2.2.2
theorem v_vret (hr : mR M = none) (d : decode (mB M) pc = .ok (.return_, 1)) (hQ : Q none I L P) : V x M Q pc ls [] I L P := by
  intro p e s m args below meth c hc hk H locs lsA hP hS hl
  exact W.vret hc.1 hc.2.1 (hc.2.2.1.trans hr) (fun t ht hW => ⟨⟨none, I, L, P, rfl, hQ, by rw [ht]; exact hP⟩, hS.F ht⟩) hS.2.2 d hc.2.2.2.2.2.2
/-! calls -/
/-- what the tables say of a method of its own: not of the place of its call -/
def MC (M' : MI) (n : Nat) : Prop := Cond.code (mY M') (mB M') (mL M') (mR M') ∈ TB ∧ Cond.initialized (mY M').cls ∈ TB ∧ (mY M').cls ≠ "java/lang/invoke/MethodHandle" ∧ (mY M').cls ≠ "java/lang/invoke/VarHandle" ∧ (parseMethodDescriptor (mY M').desc).map (fun d => d.parameters.length) = some n
def roomOk (M M' : MI) : Bool := decide (mF M' + 1 ≤ mF M) && decide (8 + (mL M' + 11) + mO M' ≤ mO M)
theorem roomOk_spec {M M' : MI} (h : roomOk M M' = true) : mF M' + 1 ≤ mF M ∧ 8 + (mL M' + 11) + mO M' ≤ mO M := by
  simpa [roomOk] using h
theorem v_fin {p : Program} {e : Env} {s : State} {m : MethodId} {args : Array Value} {below : List Frame} {meth : Method} {c : Code} {H : Heap} {locs : List Loc} {lsA : Array Slot} {R : Room} {Qz : State → Prop} {Q' : Qt} {a : Array Value} {st0 : List Value} (hr : va_Run p (x_l x) e R s m args below meth c H locs 0 0 0 0 (F0 m pc lsA st0) st (QcO x Q' a) (AA x)) (hS : va_S (AA x) s.heap H locs)
    (kk : ∀ v I' L' P' H1 locs1, Q' v I' L' P' → HP x I' L' P' H1 → va_S (AA x) s.heap H1 locs1 → W p (x_l x) e R s m args below meth c H1 locs1 0 0 Qz (F0 m (pc + 3) lsA (v.toList ++ st))) : W p (x_l x) e R s m args below meth c H locs 0 0 Qz (F0 m pc lsA st0) := by
  intro T hT X
  obtain ⟨v, st₀, t, T', L0, h0, X', hL, e1, e2, ⟨⟨v2, I', L', P', hv, hq, hP⟩, hz, hk⟩, st⟩ := hr T hT X
  cases hv
  rw [h0] at hz hk
  obtain ⟨t2, a1, b1⟩ := kk v I' L' P' T'.heap (locs ++ L0) hq (by rw [e1]; exact hP)
    ⟨Nat.le_trans hS.1 (by rw [e1]; exact hz), fun q h1 h2 => by rw [e1, hk q (Nat.lt_of_lt_of_le h1 hS.1) h2]; exact hS.2.1 q h1 h2, fun q hq => by
      rcases List.mem_append.mp hq with h | h
      · exact hS.2.2 q h
      · exact hL q h⟩ T' rfl X'
  exact ⟨t2, st t2 a1, b1⟩
theorem wsM_ok {M' : MI} {n : Nat} (h : MC M' n) : ∀ w ∈ wsM M', w ∈ TB := by
  intro w hw
  rcases List.mem_cons.mp hw with rfl | hw
  · exact h.1
  · exact hw
theorem gI_V {M M' : MI} {n index : Nat} {own C : String} (h : MC M' n) (h1 : Cond.methodLink own index (mY M') ∈ TB) (h2 : Cond.instanceMethod (mY M') ∈ TB) (h3 : Cond.selects C (mY M') (mY M') ∈ TB) (h4 : Cond.initialized C ∈ TB) : GoodIn (wsM M) (wsV own index C (mY M') (wsM M')) := by
  intro w hw
  have : w ∈ TB := by
    rcases List.mem_append.mp hw with hw | hw
    · simp only [List.mem_cons, List.not_mem_nil, or_false] at hw
      rcases hw with rfl | rfl | rfl | rfl
      · exact h1
      · exact h2
      · exact h3
      · exact h4
    · exact wsM_ok h w hw
  exact ⟨List.mem_cons_of_mem _ this, good_of_word (TB_good w this)⟩
theorem gI_S {M M' : MI} {n index : Nat} {own : String} (h : MC M' n) (h1 : Cond.methodLink own index (mY M') ∈ TB) (h2 : Cond.static (mY M') ∈ TB) (h4 : Cond.initialized own ∈ TB) : GoodIn (wsM M) (wsS own index (mY M') (wsM M')) := by
  intro w hw
  have : w ∈ TB := by
    rcases List.mem_append.mp hw with hw | hw
    · simp only [List.mem_cons, List.not_mem_nil, or_false] at hw
      rcases hw with rfl | rfl | rfl
      · exact h1
      · exact h2
      · exact h4
    · exact wsM_ok h w hw
  exact ⟨List.mem_cons_of_mem _ this, good_of_word (TB_good w this)⟩
theorem gI_M {M M' : MI} {n : Nat} (h : MC M' n) : GoodIn (wsM M) (wsM M') := by
  intro w hw
  have : w ∈ TB := wsM_ok h w hw
  exact ⟨List.mem_cons_of_mem _ this, good_of_word (TB_good w this)⟩

theorem v_invV (q : Nat) (M' : MI) (As : List Value) {index i ci : Nat} (hi : i < 54) (hs1 : hs i = (0, ci)) (hci : ci < 9) (hC : vC ci = (mY M').cls) (d : decode (mB M) pc = .ok (.invokevirtual index, 3)) (hq : pc + 3 = q) (hm : Cond.methodLink (mY M).cls index (mY M') ∈ TB) (him : Cond.instanceMethod (mY M') ∈ TB) (hse : Cond.selects (mY M').cls (mY M') (mY M') ∈ TB) (hmc : MC M' As.length) (hroom : roomOk M M' = true) (hW : (st.map fun v => v.category).sum ≤ 8) (hsp : SP x M' (rfv x i :: As) I L P (fun v I' L' P' => V x M Q q ls (v.toList ++ st) I' L' P')) : V x M Q pc ls (As.reverse ++ rfv x i :: st) I L P := by
  subst hq
  intro p e s m args below meth c hc hk H locs lsA hP hS hl
  have he : (wl x (cE x I L P))[i]? = some (x_ad x i, .inr (ci, (List.range (nf ci)).map (fvl x ci i I L))) := (wl_get hi).trans (by rw [cE_obj hs1])
  refine v_fin (va_runV (nL := mL M) (Ts := wsM M) (own := (mY M).cls) (C := (mY M').cls) (As := As) (rest := st) ⟨hc.1, hc.2.1, hc.2.2.2.1, hc.2.2.2.2.1, hc.2.2.2.2.2.1⟩ hsp (cwV As.length hc.2.2.2.2.2.1 (gI_V hmc hm him hse hmc.2.1) rfl rfl rfl ⟨rfl, hmc.2.2⟩ (roomOk_spec hroom)) ⟨PcO_blind _ _ _ _ _, ?_, fun U hU hW => ⟨rfl, by rw [hU]; exact hP, hk.warm hW⟩⟩ rfl rfl hl.1 rfl (lv_room hW) d ⟨Nat.le_refl _, Nat.le_refl _⟩) hS (fun v I' L' P' H1 locs1 hq hP1 hS1 => hq p e s m args below meth c hc hk H1 locs1 lsA hP1 hS1 hl)
  have h9 := va_recv hk.1 hP (v_cl hci) he
  rw [show ((vC ci, vT ci, nf ci) : vw_C).1 = (mY M').cls from hC] at h9
  exact h9
theorem v_invS (q : Nat) (M' : MI) (As : List Value) {index : Nat} (d : decode (mB M) pc = .ok (.invokestatic index, 3)) (hq : pc + 3 = q) (hown : (mY M').cls = (mY M).cls) (hm : Cond.methodLink (mY M).cls index (mY M') ∈ TB) (hst : Cond.static (mY M') ∈ TB) (hmc : MC M' As.length) (hroom : roomOk M M' = true) (hW : (st.map fun v => v.category).sum ≤ 8) (hsp : SP x M' As I L P (fun v I' L' P' => V x M Q q ls (v.toList ++ st) I' L' P')) : V x M Q pc ls (As.reverse ++ st) I L P := by
  subst hq
  intro p e s m args below meth c hc hk H locs lsA hP hS hl
  exact v_fin (va_runS (nL := mL M) (Ts := wsM M) (own := (mY M).cls) (As := As) (rest := st) ⟨hc.1, hc.2.1, hc.2.2.2.1, hc.2.2.2.2.1, hc.2.2.2.2.2.1⟩ hsp (cwS As.length hc.2.2.2.2.2.1 (gI_S hmc hm hst (by rw [← hown]; exact hmc.2.1)) rfl rfl rfl ⟨hown, hmc.2.2⟩ (roomOk_spec hroom)) ⟨PcO_blind _ _ _ _ _, fun U hU hW => ⟨rfl, by rw [hU]; exact hP, hk.warm hW⟩⟩ rfl rfl hl.1 rfl (lv_room hW) d ⟨Nat.le_refl _, Nat.le_refl _⟩) hS (fun v I' L' P' H1 locs1 hq hP1 hS1 => hq p e s m args below meth c hc hk H1 locs1 lsA hP1 hS1 hl)
theorem v_invT (q : Nat) (M' : MI) (As : List Value) {index : Nat} (d : decode (mB M) pc = .ok (.invokestatic index, 3)) (hq : pc + 3 = q) (hm : Cond.methodLink (mY M).cls index (mY M') ∈ TB) (hst : Cond.static (mY M') ∈ TB) (hmc : MC M' As.length) (hroom : roomOk M M' = true) (hW : (st.map fun v => v.category).sum ≤ 8) (hsp : SP x M' As I L P (fun v I' L' P' => V x M Q q ls (v.toList ++ st) I' L' P')) : V x M Q pc ls (As.reverse ++ st) I L P := by
  subst hq
  intro p e s m args below meth c hc hk H locs lsA hP hS hl
  have ok : ∀ w ∈ TB, w.before args s = true := fun w hw => hc.2.2.2.2.2.1 w (List.mem_cons_of_mem _ hw)
  exact v_fin (va_runS (nL := mL M) (Ts := wsM M) (own := (mY M).cls) (As := As) (rest := st) ⟨hc.1, hc.2.1, hc.2.2.2.1, hc.2.2.2.2.1, hc.2.2.2.2.2.1⟩ hsp ⟨callB_of As.length hc.2.2.2.2.2.1 (gI_M hmc) rfl rfl rfl (ok _ hmc.2.1) (ok _ hm) hmc.2.2 (roomOk_spec hroom), ok _ hst⟩ ⟨PcO_blind _ _ _ _ _, fun U hU hW => ⟨rfl, by rw [hU]; exact hP, hk.warm hW⟩⟩ rfl rfl hl.1 rfl (lv_room hW) d ⟨Nat.le_refl _, Nat.le_refl _⟩) hS (fun v I' L' P' H1 locs1 hq hP1 hS1 => hq p e s m args below meth c hc hk H1 locs1 lsA hP1 hS1 hl)
theorem v_invN (q : Nat) (M' : MI) (As : List Value) {index : Nat} {host : String} (d : decode (mB M) pc = .ok (.invokestatic index, 3)) (hq : pc + 3 = q) (hm : Cond.methodLinkNest (mY M).cls index (mY M') host ∈ nestW) (hst : Cond.static (mY M') ∈ TB) (hmc : MC M' As.length) (hroom : roomOk M M' = true) (hW : (st.map fun v => v.category).sum ≤ 8) (hsp : SP x M' As I L P (fun v I' L' P' => V x M Q q ls (v.toList ++ st) I' L' P')) : V x M Q pc ls (As.reverse ++ st) I L P := by
  subst hq
  intro p e s m args below meth c hc hk H locs lsA hP hS hl
  have ok : ∀ w ∈ TB, w.before args s = true := fun w hw => hc.2.2.2.2.2.1 w (List.mem_cons_of_mem _ hw)
  exact v_fin (va_runSN (nL := mL M) (Ts := wsM M) (own := (mY M).cls) (As := As) (rest := st) ⟨hc.1, hc.2.1, hc.2.2.2.1, hc.2.2.2.2.1, hc.2.2.2.2.2.1⟩ hsp ⟨va_cnB As.length hc.2.2.2.2.2.1 (gI_M hmc) rfl rfl rfl (hk.2.1 _ hm) (ok _ hmc.2.1) hmc.2.2 (roomOk_spec hroom), ok _ hst, trivial⟩ ⟨PcO_blind _ _ _ _ _, fun U hU hW => ⟨rfl, by rw [hU]; exact hP, hk.warm hW⟩⟩ rfl rfl hl.1 rfl (lv_room hW) d ⟨Nat.le_refl _, Nat.le_refl _⟩) hS (fun v I' L' P' H1 locs1 hq hP1 hS1 => hq p e s m args below meth c hc hk H1 locs1 lsA hP1 hS1 hl)
theorem v_mmax (q : Nat) {a b : Int32} {index : Nat} (r : Int32) (d : decode (mB M) pc = .ok (.invokestatic index, 3)) (hq : pc + 3 = q) (hm : Cond.methodLink (mY M).cls index Lib.Math.max.name ∈ TB) (hroom : 1 ≤ mF M ∧ (st.map fun v => v.category).sum + 13 ≤ mO M) (hr : (if a < b then b else a) = r) (kk : V x M Q q ls (.int r :: st) I L P) : V x M Q pc ls (.int b :: .int a :: st) I L P := by
  subst hq
  subst hr
  intro p e s m args below meth c hc hk H locs lsA hP hS hl
  have ok : ∀ w ∈ TB, w.before args s = true := fun w hw => hc.2.2.2.2.2.1 w (List.mem_cons_of_mem _ hw)
  exact va_mmax hc.1 hc.2.1 (hc.2.2.2.1.trans hl.1.symm) hc.2.2.2.2.1 (ok _ hm) (ok _ sm_J9_max) (ok _ in_Math) (ok _ kc_J9_max) hroom.1 hroom.2 (Nat.zero_le _) (Nat.zero_le _) d (kk p e s m args below meth c hc hk H locs lsA hP hS hl)
theorem v_mmin (q : Nat) {a b : Int32} {index : Nat} (r : Int32) (d : decode (mB M) pc = .ok (.invokestatic index, 3)) (hq : pc + 3 = q) (hm : Cond.methodLink (mY M).cls index Lib.Math.min.name ∈ TB) (hroom : 1 ≤ mF M ∧ (st.map fun v => v.category).sum + 13 ≤ mO M) (hr : (if b < a then b else a) = r) (kk : V x M Q q ls (.int r :: st) I L P) : V x M Q pc ls (.int b :: .int a :: st) I L P := by
  subst hq
  subst hr
  intro p e s m args below meth c hc hk H locs lsA hP hS hl
  have ok : ∀ w ∈ TB, w.before args s = true := fun w hw => hc.2.2.2.2.2.1 w (List.mem_cons_of_mem _ hw)
  exact va_mmin hc.1 hc.2.1 (hc.2.2.2.1.trans hl.1.symm) hc.2.2.2.2.1 (ok _ hm) (ok _ sm_J9_min) (ok _ in_Math) (ok _ kc_J9_min) hroom.1 hroom.2 (Nat.zero_le _) (Nat.zero_le _) d (kk p e s m args below meth c hc hk H locs lsA hP hS hl)
def cpy2 (I : Iv) (i0 i1 sp dp n : Nat) : Iv := fun a b => if a = i1 then (if dp ≤ b ∧ b < dp + n then I i0 (sp + (b - dp)) else I i1 b) else I a b
theorem v_acopy (q : Nat) {i0 i1 n0 n1 sp dp n index : Nat} {jsp jdp jn : Int32} (hi0 : i0 < 54) (hi1 : i1 < 54) (hs0 : hs i0 = (1, n0)) (hs1 : hs i1 = (1, n1)) (d : decode (mB M) pc = .ok (.invokestatic index, 3)) (hq : pc + 3 = q) (hm : Cond.methodLink (mY M).cls index arraycopyName ∈ TB) (hroom : 1 ≤ mF M ∧ (st.map fun v => v.category).sum + (nativeFrameWords "java/lang/System" "arraycopy" 5 + 11) ≤ mO M) (e1 : jsp = nI sp) (e2 : jdp = nI dp) (e3 : jn = nI n) (hb : n0 < 2147483648 ∧ n1 < 2147483648) (h4 : sp + n ≤ n0) (h5 : dp + n ≤ n1) (kk : ∀ Z, Z = cpy2 I i0 i1 sp dp n → V x M Q q ls st Z L P) : V x M Q pc ls (.int jn :: .int jdp :: rfv x i1 :: .int jsp :: rfv x i0 :: st) I L P := by
  subst hq
  subst e1
  subst e2
  subst e3
  intro p e s m args below meth c hc hk H locs lsA hP hS hl
  have ok : ∀ w ∈ TB, w.before args s = true := fun w hw => hc.2.2.2.2.2.1 w (List.mem_cons_of_mem _ hw)
  have b1 : sp < 2 ^ 31 := by have := hb.1; omega
  have b2 : dp < 2 ^ 31 := by have := hb.2; omega
  have b3 : n < 2 ^ 31 := by have := hb.1; omega
  refine va_copyi hc.1 hc.2.1 (hc.2.2.2.1.trans hl.1.symm) hc.2.2.2.2.1 (ok _ hm) (ok _ na_acopy) (ok _ sm_acopy) (ok _ in_System) hk.1 hP (wl_D _ hk.2.2) hS i0 i1 0 0 (ty := .int) ((wl_get hi0).trans (by rw [cE_i hs0])) ((wl_get hi1).trans (by rw [cE_i hs1])) rfl rfl rfl (nI_pos b1) (nI_pos b2) (nI_pos b3) (by rw [nI_clamp b1, nI_clamp b3]; exact h4) (by rw [nI_clamp b2, nI_clamp b3]; exact h5) (fun _ _ => rfl) hroom.1 hroom.2 d (fun H1 locs1 hP1 _ hS1 => ?_)
  rw [nI_clamp b1, nI_clamp b2, nI_clamp b3, wl_set (E' := cE x (cpy2 I i0 i1 sp dp n) L P) hi1 (by
    rw [cE_i hs1]
    congr 4
    funext z
    simp [cpy2, va_cpy]) (fun j hj => cE_same (by funext z; simp [cpy2, hj]) rfl)] at hP1
  exact kk _ rfl p e s m args below meth c hc hk H1 locs1 lsA hP1 hS1 hl
theorem v_iushr (q : Nat) {a b : Int32} (r : Int32) (d : decode (mB M) pc = .ok (.iushr, 1)) (hq : pc + 1 = q) (hr : (a.toUInt32 >>> (b.toUInt32 &&& Int32.toUInt32 31)).toInt32 = r) (kk : V x M Q q ls (.int r :: st) I L P) : V x M Q pc ls (.int b :: .int a :: st) I L P := by
  subst hq
  subst hr
  intro p e s m args below meth c hc hk H locs lsA hP hS hl
  exact lv_iushr hc.1 hc.2.1 d rfl (kk p e s m args below meth c hc hk H locs lsA hP hS hl)
theorem v_ldcw (q : Nat) (v : Int32) {index : Nat} (d : decode (mB M) pc = .ok (.ldc_w index, 3)) (hq : pc + 3 = q) (hw : Cond.constant (mY M).cls index v ∈ TB) (kk : V x M Q q ls (.int v :: st) I L P) : V x M Q pc ls st I L P := by
  subst hq
  intro p e s m args below meth c hc hk H locs lsA hP hS hl
  exact lv_ldcw hc.1 hc.2.1 hc.2.2.2.2.1 (hc.2.2.2.2.2.1 _ (List.mem_cons_of_mem _ hw)) d (kk p e s m args below meth c hc hk H locs lsA hP hS hl)
theorem v_tin (q : Nat) {dflt lo hi off : Int} {offs : Array Int} {len : Nat} {a : Int32} (d : decode (mB M) pc = .ok (.tableswitch dflt lo hi offs, len)) (h1 : ¬ a.toInt < lo) (h2 : ¬ hi < a.toInt) (ho : offs[(a.toInt - lo).toNat]? = some off) (ht : (pc : Int) + off = (q : Int)) (kk : V x M Q q ls st I L P) : V x M Q pc ls (.int a :: st) I L P := by
  intro p e s m args below meth c hc hk H locs lsA hP hS hl
  exact lv_tableIn hc.1 hc.2.1 d h1 h2 ho ht (kk p e s m args below meth c hc hk H locs lsA hP hS hl)
theorem v_tout (q : Nat) {dflt lo hi : Int} {offs : Array Int} {len : Nat} {a : Int32} (d : decode (mB M) pc = .ok (.tableswitch dflt lo hi offs, len)) (h : a.toInt < lo ∨ hi < a.toInt) (ht : (pc : Int) + dflt = (q : Int)) (kk : V x M Q q ls st I L P) : V x M Q pc ls (.int a :: st) I L P := by
  intro p e s m args below meth c hc hk H locs lsA hP hS hl
  exact lv_tableOut hc.1 hc.2.1 d h ht (kk p e s m args below meth c hc hk H locs lsA hP hS hl)
theorem v_icmpN_eq (t q : Nat) {a b : Nat} {off : Int} (d : decode (mB M) pc = .ok (.if_icmp .eq off, 3)) (ht : (pc : Int) + off = (t : Int)) (hq : pc + 3 = q) (ha : a < 2147483648) (hb : b < 2147483648) (kt : a = b → V x M Q t ls st I L P) (kf : a ≠ b → V x M Q q ls st I L P) : V x M Q pc ls (.int (nI b) :: .int (nI a) :: st) I L P :=
  v_icmp_eq t q d ht hq (fun h => kt ((nI_eq ha hb).mp h)) (fun h => kf (fun q => h ((nI_eq ha hb).mpr q)))
theorem v_icmpN_ne (t q : Nat) {a b : Nat} {off : Int} (d : decode (mB M) pc = .ok (.if_icmp .ne off, 3)) (ht : (pc : Int) + off = (t : Int)) (hq : pc + 3 = q) (ha : a < 2147483648) (hb : b < 2147483648) (kt : a ≠ b → V x M Q t ls st I L P) (kf : a = b → V x M Q q ls st I L P) : V x M Q pc ls (.int (nI b) :: .int (nI a) :: st) I L P :=
  v_icmp_ne t q d ht hq (fun h => kt (fun q => h ((nI_eq ha hb).mpr q))) (fun h => kf ((nI_eq ha hb).mp h))
theorem v_icmpN_lt (t q : Nat) {a b : Nat} {off : Int} (d : decode (mB M) pc = .ok (.if_icmp .lt off, 3)) (ht : (pc : Int) + off = (t : Int)) (hq : pc + 3 = q) (ha : a < 2147483648) (hb : b < 2147483648) (kt : a < b → V x M Q t ls st I L P) (kf : b ≤ a → V x M Q q ls st I L P) : V x M Q pc ls (.int (nI b) :: .int (nI a) :: st) I L P :=
  v_icmp_lt t q d ht hq (fun h => kt ((nI_ltI ha hb).mp h)) (fun h => kf (Nat.le_of_not_lt (fun q => h ((nI_ltI ha hb).mpr q))))
theorem v_icmpN_ge (t q : Nat) {a b : Nat} {off : Int} (d : decode (mB M) pc = .ok (.if_icmp .ge off, 3)) (ht : (pc : Int) + off = (t : Int)) (hq : pc + 3 = q) (ha : a < 2147483648) (hb : b < 2147483648) (kt : b ≤ a → V x M Q t ls st I L P) (kf : a < b → V x M Q q ls st I L P) : V x M Q pc ls (.int (nI b) :: .int (nI a) :: st) I L P :=
  v_icmp_ge t q d ht hq (fun h => kt ((nI_leI hb ha).mp h)) (fun h => kf (Nat.lt_of_not_le (fun q => h ((nI_leI hb ha).mpr q))))
theorem v_icmpN_gt (t q : Nat) {a b : Nat} {off : Int} (d : decode (mB M) pc = .ok (.if_icmp .gt off, 3)) (ht : (pc : Int) + off = (t : Int)) (hq : pc + 3 = q) (ha : a < 2147483648) (hb : b < 2147483648) (kt : b < a → V x M Q t ls st I L P) (kf : a ≤ b → V x M Q q ls st I L P) : V x M Q pc ls (.int (nI b) :: .int (nI a) :: st) I L P :=
  v_icmp_gt t q d ht hq (fun h => kt ((nI_ltI hb ha).mp h)) (fun h => kf (Nat.le_of_not_lt (fun q => h ((nI_ltI hb ha).mpr q))))
theorem v_icmpN_le (t q : Nat) {a b : Nat} {off : Int} (d : decode (mB M) pc = .ok (.if_icmp .le off, 3)) (ht : (pc : Int) + off = (t : Int)) (hq : pc + 3 = q) (ha : a < 2147483648) (hb : b < 2147483648) (kt : a ≤ b → V x M Q t ls st I L P) (kf : b < a → V x M Q q ls st I L P) : V x M Q pc ls (.int (nI b) :: .int (nI a) :: st) I L P :=
  v_icmp_le t q d ht hq (fun h => kt ((nI_leI ha hb).mp h)) (fun h => kf (Nat.lt_of_not_le (fun q => h ((nI_leI ha hb).mpr q))))
theorem v_ifN_eq (t q : Nat) {a : Nat} {off : Int} (d : decode (mB M) pc = .ok (.ifCond .eq off, 3)) (ht : (pc : Int) + off = (t : Int)) (hq : pc + 3 = q) (ha : a < 2147483648) (kt : a = 0 → V x M Q t ls st I L P) (kf : a ≠ 0 → V x M Q q ls st I L P) : V x M Q pc ls (.int (nI a) :: st) I L P :=
  v_if_eq t q d ht hq (fun h => kt ((nI_eq ha (by decide : 0 < 2 ^ 31)).mp h)) (fun h => kf (fun q => h ((nI_eq ha (by decide : 0 < 2 ^ 31)).mpr q)))
theorem v_ifN_ne (t q : Nat) {a : Nat} {off : Int} (d : decode (mB M) pc = .ok (.ifCond .ne off, 3)) (ht : (pc : Int) + off = (t : Int)) (hq : pc + 3 = q) (ha : a < 2147483648) (kt : a ≠ 0 → V x M Q t ls st I L P) (kf : a = 0 → V x M Q q ls st I L P) : V x M Q pc ls (.int (nI a) :: st) I L P :=
  v_if_ne t q d ht hq (fun h => kt (fun q => h ((nI_eq ha (by decide : 0 < 2 ^ 31)).mpr q))) (fun h => kf ((nI_eq ha (by decide : 0 < 2 ^ 31)).mp h))
theorem v_ifN_gt (t q : Nat) {a : Nat} {off : Int} (d : decode (mB M) pc = .ok (.ifCond .gt off, 3)) (ht : (pc : Int) + off = (t : Int)) (hq : pc + 3 = q) (ha : a < 2147483648) (kt : 0 < a → V x M Q t ls st I L P) (kf : a = 0 → V x M Q q ls st I L P) : V x M Q pc ls (.int (nI a) :: st) I L P :=
  v_if_gt t q d ht hq (fun h => kt ((nI_ltI (by decide : 0 < 2 ^ 31) ha).mp h)) (fun h => kf (Nat.eq_zero_of_not_pos (fun q => h ((nI_ltI (by decide : 0 < 2 ^ 31) ha).mpr q))))
theorem v_ifN_le (t q : Nat) {a : Nat} {off : Int} (d : decode (mB M) pc = .ok (.ifCond .le off, 3)) (ht : (pc : Int) + off = (t : Int)) (hq : pc + 3 = q) (ha : a < 2147483648) (kt : a = 0 → V x M Q t ls st I L P) (kf : 0 < a → V x M Q q ls st I L P) : V x M Q pc ls (.int (nI a) :: st) I L P :=
  v_if_le t q d ht hq (fun h => kt (Nat.le_zero.mp ((nI_leI ha (by decide : 0 < 2 ^ 31)).mp h))) (fun h => kf (Nat.pos_of_ne_zero (fun q => h (by rw [q]; decide))))
theorem v_ifN_lt (t q : Nat) {a : Nat} {off : Int} (d : decode (mB M) pc = .ok (.ifCond .lt off, 3)) (ht : (pc : Int) + off = (t : Int)) (hq : pc + 3 = q) (ha : a < 2147483648) (kf : V x M Q q ls st I L P) : V x M Q pc ls (.int (nI a) :: st) I L P :=
  v_if_lt t q d ht hq (fun h => absurd h (nI_pos ha)) (fun _ => kf)
theorem v_ifN_ge (t q : Nat) {a : Nat} {off : Int} (d : decode (mB M) pc = .ok (.ifCond .ge off, 3)) (ht : (pc : Int) + off = (t : Int)) (hq : pc + 3 = q) (ha : a < 2147483648) (kt : V x M Q t ls st I L P) : V x M Q pc ls (.int (nI a) :: st) I L P :=
  v_if_ge t q d ht hq (fun _ => kt) (fun h => absurd (nI_pos' ha) h)
theorem lg_eq0 {a b : Int64} : lg_cmp a b = 0 ↔ a = b := by
  by_cases h1 : b < a
  · have : ¬ a = b := fun e => by rw [e] at h1; exact absurd h1 (by simp [Int64.lt_iff_toInt_lt])
    simp [lg_cmp, h1, this]
  · by_cases h2 : a = b <;> simp [lg_cmp, h1, h2]
theorem lg_gt0 {a b : Int64} : (0 : Int32) < lg_cmp a b ↔ b < a := by
  by_cases h1 : b < a
  · simp [lg_cmp, h1]
  · by_cases h2 : a = b <;> simp [lg_cmp, h1, h2]
theorem v_lcmp_eq (q1 t q : Nat) {a b : Int64} {off : Int} (d0 : decode (mB M) pc = .ok (.lcmp, 1)) (hq1 : pc + 1 = q1) (d : decode (mB M) q1 = .ok (.ifCond .eq off, 3)) (ht : (q1 : Int) + off = (t : Int)) (hq : q1 + 3 = q) (kt : a = b → V x M Q t ls st I L P) (kf : ¬ a = b → V x M Q q ls st I L P) : V x M Q pc ls (.long b :: .long a :: st) I L P :=
  v_lcmp q1 d0 hq1 (v_if_eq t q d ht hq (fun h => kt (lg_eq0.mp h)) (fun h => kf (fun q => h (lg_eq0.mpr q))))
theorem v_lcmp_ne (q1 t q : Nat) {a b : Int64} {off : Int} (d0 : decode (mB M) pc = .ok (.lcmp, 1)) (hq1 : pc + 1 = q1) (d : decode (mB M) q1 = .ok (.ifCond .ne off, 3)) (ht : (q1 : Int) + off = (t : Int)) (hq : q1 + 3 = q) (kt : ¬ a = b → V x M Q t ls st I L P) (kf : a = b → V x M Q q ls st I L P) : V x M Q pc ls (.long b :: .long a :: st) I L P :=
  v_lcmp q1 d0 hq1 (v_if_ne t q d ht hq (fun h => kt (fun q => h (lg_eq0.mpr q))) (fun h => kf (lg_eq0.mp h)))
theorem v_lcmp_gt (q1 t q : Nat) {a b : Int64} {off : Int} (d0 : decode (mB M) pc = .ok (.lcmp, 1)) (hq1 : pc + 1 = q1) (d : decode (mB M) q1 = .ok (.ifCond .gt off, 3)) (ht : (q1 : Int) + off = (t : Int)) (hq : q1 + 3 = q) (kt : b < a → V x M Q t ls st I L P) (kf : ¬ b < a → V x M Q q ls st I L P) : V x M Q pc ls (.long b :: .long a :: st) I L P :=
  v_lcmp q1 d0 hq1 (v_if_gt t q d ht hq (fun h => kt (lg_gt0.mp h)) (fun h => kf (fun q => h (lg_gt0.mpr q))))
theorem v_lcmp_le (q1 t q : Nat) {a b : Int64} {off : Int} (d0 : decode (mB M) pc = .ok (.lcmp, 1)) (hq1 : pc + 1 = q1) (d : decode (mB M) q1 = .ok (.ifCond .le off, 3)) (ht : (q1 : Int) + off = (t : Int)) (hq : q1 + 3 = q) (kt : ¬ b < a → V x M Q t ls st I L P) (kf : b < a → V x M Q q ls st I L P) : V x M Q pc ls (.long b :: .long a :: st) I L P :=
  v_lcmp q1 d0 hq1 (v_if_le t q d ht hq (fun h => kt (fun q => absurd (lg_gt0.mpr q) (Int32.not_lt.mpr h))) (fun h => kf (lg_gt0.mp (Int32.not_le.mp h))))
theorem lg_lt0 {a b : Int64} : lg_cmp a b < (0 : Int32) ↔ a < b := by
  by_cases h1 : b < a
  · have h3 : ¬ a < b := lg_lt_not h1
    simp [lg_cmp, h1, h3]
  · by_cases h2 : a = b
    · subst h2
      simp [lg_cmp, h1]
    · have h3 : a < b := by
        rw [Int64.lt_iff_toInt_lt] at h1 ⊢
        have : a.toInt ≠ b.toInt := fun q => h2 (Int64.toInt_inj.mp q)
        omega
      simp [lg_cmp, h1, h2, h3]
theorem v_lcmp_lt (q1 t q : Nat) {a b : Int64} {off : Int} (d0 : decode (mB M) pc = .ok (.lcmp, 1)) (hq1 : pc + 1 = q1) (d : decode (mB M) q1 = .ok (.ifCond .lt off, 3)) (ht : (q1 : Int) + off = (t : Int)) (hq : q1 + 3 = q) (kt : a < b → V x M Q t ls st I L P) (kf : ¬ a < b → V x M Q q ls st I L P) : V x M Q pc ls (.long b :: .long a :: st) I L P :=
  v_lcmp q1 d0 hq1 (v_if_lt t q d ht hq (fun h => kt (lg_lt0.mp h)) (fun h => kf (fun q => h (lg_lt0.mpr q))))
theorem lg_ge0 {a b : Int64} : (0 : Int32) ≤ lg_cmp a b ↔ ¬ a < b := by
  rw [← lg_lt0]
  exact Int32.not_lt.symm
theorem v_lcmp_ge (q1 t q : Nat) {a b : Int64} {off : Int} (d0 : decode (mB M) pc = .ok (.lcmp, 1)) (hq1 : pc + 1 = q1) (d : decode (mB M) q1 = .ok (.ifCond .ge off, 3)) (ht : (q1 : Int) + off = (t : Int)) (hq : q1 + 3 = q) (kt : ¬ a < b → V x M Q t ls st I L P) (kf : a < b → V x M Q q ls st I L P) : V x M Q pc ls (.long b :: .long a :: st) I L P :=
  v_lcmp q1 d0 hq1 (v_if_ge t q d ht hq (fun h => kt (lg_ge0.mp h)) (fun h => kf (Classical.not_not.mp (fun q => h (lg_ge0.mpr q)))))
theorem nI_inc (a : Nat) : nI a + Int32.ofInt 1 = nI (a + 1) := nI_1 a
theorem nI_dec {a : Nat} (h : 0 < a) : nI a + Int32.ofInt (-1) = nI (a - 1) := by
  obtain ⟨b, rfl⟩ : ∃ b, a = b + 1 := ⟨a - 1, by omega⟩
  exact pk_m1 b
end ROWS
end
section
/-! the methods: name, bytes, locals, answer, room -/
abbrev M_X0_read : MI := (yX0_read, cX0_read, 7, none, 3, 69)
theorem mc_X0_read : MC M_X0_read 1 := ⟨kc_X0_read, in_X0, by decide +kernel, by decide +kernel, by decide +kernel⟩
theorem pn_X0_read : plainName (mY M_X0_read).cls = true := by decide +kernel
abbrev M_X0_beginning : MI := (yX0_beginning, cX0_beginning, 2, (some .long), 1, 21)
theorem mc_X0_beginning : MC M_X0_beginning 1 := ⟨kc_X0_beginning, in_X0, by decide +kernel, by decide +kernel, by decide +kernel⟩
theorem pn_X0_beginning : plainName (mY M_X0_beginning).cls = true := by decide +kernel
abbrev M_X0_going : MI := (yX0_going, cX0_going, 4, (some .long), 1, 22)
theorem mc_X0_going : MC M_X0_going 3 := ⟨kc_X0_going, in_X0, by decide +kernel, by decide +kernel, by decide +kernel⟩
theorem pn_X0_going : plainName (mY M_X0_going).cls = true := by decide +kernel
abbrev M_X0_firstOf : MI := (yX0_firstOf, cX0_firstOf, 3, (some .int), 2, 42)
theorem mc_X0_firstOf : MC M_X0_firstOf 0 := ⟨kc_X0_firstOf, in_X0, by decide +kernel, by decide +kernel, by decide +kernel⟩
theorem pn_X0_firstOf : plainName (mY M_X0_firstOf).cls = true := by decide +kernel
abbrev M_X0_nextOf : MI := (yX0_nextOf, cX0_nextOf, 5, (some .int), 2, 45)
theorem mc_X0_nextOf : MC M_X0_nextOf 2 := ⟨kc_X0_nextOf, in_X0, by decide +kernel, by decide +kernel, by decide +kernel⟩
theorem pn_X0_nextOf : plainName (mY M_X0_nextOf).cls = true := by decide +kernel
abbrev M_X1_record : MI := (yX1_record, cX1_record, 2, none, 2, 61)
theorem mc_X1_record : MC M_X1_record 1 := ⟨kc_X1_record, in_X1, by decide +kernel, by decide +kernel, by decide +kernel⟩
theorem pn_X1_record : plainName (mY M_X1_record).cls = true := by decide +kernel
abbrev M_X1_dropOldest : MI := (yX1_dropOldest, cX1_dropOldest, 3, none, 0, 0)
theorem mc_X1_dropOldest : MC M_X1_dropOldest 0 := ⟨kc_X1_dropOldest, in_X1, by decide +kernel, by decide +kernel, by decide +kernel⟩
theorem pn_X1_dropOldest : plainName (mY M_X1_dropOldest).cls = true := by decide +kernel
abbrev M_X1_takeLatest : MI := (yX1_takeLatest, cX1_takeLatest, 2, none, 2, 61)
theorem mc_X1_takeLatest : MC M_X1_takeLatest 1 := ⟨kc_X1_takeLatest, in_X1, by decide +kernel, by decide +kernel, by decide +kernel⟩
theorem pn_X1_takeLatest : plainName (mY M_X1_takeLatest).cls = true := by decide +kernel
abbrev M_X2_prepareRound : MI := (yX2_prepareRound, cX2_prepareRound, 2, (some .boolean), 5, 118)
theorem mc_X2_prepareRound : MC M_X2_prepareRound 0 := ⟨kc_X2_prepareRound, in_X2, by decide +kernel, by decide +kernel, by decide +kernel⟩
theorem pn_X2_prepareRound : plainName (mY M_X2_prepareRound).cls = true := by decide +kernel
abbrev M_X2_finishRound : MI := (yX2_finishRound, cX2_finishRound, 1, none, 1, 40)
theorem mc_X2_finishRound : MC M_X2_finishRound 0 := ⟨kc_X2_finishRound, in_X2, by decide +kernel, by decide +kernel, by decide +kernel⟩
theorem pn_X2_finishRound : plainName (mY M_X2_finishRound).cls = true := by decide +kernel
abbrev M_X2_countSample : MI := (yX2_countSample, cX2_countSample, 3, none, 4, 95)
theorem mc_X2_countSample : MC M_X2_countSample 0 := ⟨kc_X2_countSample, in_X2, by decide +kernel, by decide +kernel, by decide +kernel⟩
theorem pn_X2_countSample : plainName (mY M_X2_countSample).cls = true := by decide +kernel
abbrev M_X2_addCount : MI := (yX2_addCount, cX2_addCount, 4, none, 1, 28)
theorem mc_X2_addCount : MC M_X2_addCount 2 := ⟨kc_X2_addCount, in_X2, by decide +kernel, by decide +kernel, by decide +kernel⟩
theorem pn_X2_addCount : plainName (mY M_X2_addCount).cls = true := by decide +kernel
abbrev M_X2_makeFamily : MI := (yX2_makeFamily, cX2_makeFamily, 7, none, 2, 45)
theorem mc_X2_makeFamily : MC M_X2_makeFamily 2 := ⟨kc_X2_makeFamily, in_X2, by decide +kernel, by decide +kernel, by decide +kernel⟩
theorem pn_X2_makeFamily : plainName (mY M_X2_makeFamily).cls = true := by decide +kernel
abbrev M_X2_differs : MI := (yX2_differs, cX2_differs, 2, (some .boolean), 0, 0)
theorem mc_X2_differs : MC M_X2_differs 0 := ⟨kc_X2_differs, in_X2, by decide +kernel, by decide +kernel, by decide +kernel⟩
theorem pn_X2_differs : plainName (mY M_X2_differs).cls = true := by decide +kernel
abbrev M_X3_copyFrom : MI := (yX3_copyFrom, cX3_copyFrom, 2, none, 1, 40)
theorem mc_X3_copyFrom : MC M_X3_copyFrom 1 := ⟨kc_X3_copyFrom, in_X3, by decide +kernel, by decide +kernel, by decide +kernel⟩
theorem pn_X3_copyFrom : plainName (mY M_X3_copyFrom).cls = true := by decide +kernel
abbrev M_X3_hasState : MI := (yX3_hasState, cX3_hasState, 2, (some .boolean), 0, 0)
theorem mc_X3_hasState : MC M_X3_hasState 1 := ⟨kc_X3_hasState, in_X3, by decide +kernel, by decide +kernel, by decide +kernel⟩
theorem pn_X3_hasState : plainName (mY M_X3_hasState).cls = true := by decide +kernel
abbrev M_X3_hasSample : MI := (yX3_hasSample, cX3_hasSample, 2, (some .boolean), 0, 0)
theorem mc_X3_hasSample : MC M_X3_hasSample 1 := ⟨kc_X3_hasSample, in_X3, by decide +kernel, by decide +kernel, by decide +kernel⟩
theorem pn_X3_hasSample : plainName (mY M_X3_hasSample).cls = true := by decide +kernel
abbrev M_X3_hasPlace : MI := (yX3_hasPlace, cX3_hasPlace, 3, (some .boolean), 1, 21)
theorem mc_X3_hasPlace : MC M_X3_hasPlace 2 := ⟨kc_X3_hasPlace, in_X3, by decide +kernel, by decide +kernel, by decide +kernel⟩
theorem pn_X3_hasPlace : plainName (mY M_X3_hasPlace).cls = true := by decide +kernel
abbrev M_X3_hasWeight : MI := (yX3_hasWeight, cX3_hasWeight, 5, (some .boolean), 1, 21)
theorem mc_X3_hasWeight : MC M_X3_hasWeight 3 := ⟨kc_X3_hasWeight, in_X3, by decide +kernel, by decide +kernel, by decide +kernel⟩
theorem pn_X3_hasWeight : plainName (mY M_X3_hasWeight).cls = true := by decide +kernel
abbrev M_X3_cellOf : MI := (yX3_cellOf, cX3_cellOf, 4, (some .int), 0, 0)
theorem mc_X3_cellOf : MC M_X3_cellOf 3 := ⟨kc_X3_cellOf, in_X3, by decide +kernel, by decide +kernel, by decide +kernel⟩
theorem pn_X3_cellOf : plainName (mY M_X3_cellOf).cls = true := by decide +kernel
abbrev M_X3_familySize : MI := (yX3_familySize, cX3_familySize, 2, (some .int), 0, 0)
theorem mc_X3_familySize : MC M_X3_familySize 1 := ⟨kc_X3_familySize, in_X3, by decide +kernel, by decide +kernel, by decide +kernel⟩
theorem pn_X3_familySize : plainName (mY M_X3_familySize).cls = true := by decide +kernel
abbrev M_X3_memberCell : MI := (yX3_memberCell, cX3_memberCell, 3, (some .int), 1, 23)
theorem mc_X3_memberCell : MC M_X3_memberCell 3 := ⟨kc_X3_memberCell, in_X3, by decide +kernel, by decide +kernel, by decide +kernel⟩
theorem pn_X3_memberCell : plainName (mY M_X3_memberCell).cls = true := by decide +kernel
abbrev M_X3_begin : MI := (yX3_begin, cX3_begin, 2, (some .int), 0, 0)
theorem mc_X3_begin : MC M_X3_begin 1 := ⟨kc_X3_begin, in_X3, by decide +kernel, by decide +kernel, by decide +kernel⟩
theorem pn_X3_begin : plainName (mY M_X3_begin).cls = true := by decide +kernel
abbrev M_X3_go : MI := (yX3_go, cX3_go, 3, (some .int), 0, 0)
theorem mc_X3_go : MC M_X3_go 2 := ⟨kc_X3_go, in_X3, by decide +kernel, by decide +kernel, by decide +kernel⟩
theorem pn_X3_go : plainName (mY M_X3_go).cls = true := by decide +kernel
abbrev M_X3_show : MI := (yX3_show, cX3_show, 3, (some .int), 0, 0)
theorem mc_X3_show : MC M_X3_show 2 := ⟨kc_X3_show, in_X3, by decide +kernel, by decide +kernel, by decide +kernel⟩
theorem pn_X3_show : plainName (mY M_X3_show).cls = true := by decide +kernel
abbrev M_X3_signAt : MI := (yX3_signAt, cX3_signAt, 3, (some .int), 0, 0)
theorem mc_X3_signAt : MC M_X3_signAt 2 := ⟨kc_X3_signAt, in_X3, by decide +kernel, by decide +kernel, by decide +kernel⟩
theorem pn_X3_signAt : plainName (mY M_X3_signAt).cls = true := by decide +kernel
abbrev M_X3_showAt : MI := (yX3_showAt, cX3_showAt, 4, (some .int), 1, 22)
theorem mc_X3_showAt : MC M_X3_showAt 3 := ⟨kc_X3_showAt, in_X3, by decide +kernel, by decide +kernel, by decide +kernel⟩
theorem pn_X3_showAt : plainName (mY M_X3_showAt).cls = true := by decide +kernel
abbrev M_X3_allSigns : MI := (yX3_allSigns, cX3_allSigns, 3, (some .int), 0, 0)
theorem mc_X3_allSigns : MC M_X3_allSigns 0 := ⟨kc_X3_allSigns, in_X3, by decide +kernel, by decide +kernel, by decide +kernel⟩
theorem pn_X3_allSigns : plainName (mY M_X3_allSigns).cls = true := by decide +kernel
abbrev M_X3_oddsOf : MI := (yX3_oddsOf, cX3_oddsOf, 12, (some .int), 2, 45)
theorem mc_X3_oddsOf : MC M_X3_oddsOf 3 := ⟨kc_X3_oddsOf, in_X3, by decide +kernel, by decide +kernel, by decide +kernel⟩
theorem pn_X3_oddsOf : plainName (mY M_X3_oddsOf).cls = true := by decide +kernel
abbrev M_X3_appendState : MI := (yX3_appendState, cX3_appendState, 3, none, 1, 23)
theorem mc_X3_appendState : MC M_X3_appendState 0 := ⟨kc_X3_appendState, in_X3, by decide +kernel, by decide +kernel, by decide +kernel⟩
theorem pn_X3_appendState : plainName (mY M_X3_appendState).cls = true := by decide +kernel
abbrev M_X3_appendTwin : MI := (yX3_appendTwin, cX3_appendTwin, 4, none, 1, 40)
theorem mc_X3_appendTwin : MC M_X3_appendTwin 1 := ⟨kc_X3_appendTwin, in_X3, by decide +kernel, by decide +kernel, by decide +kernel⟩
theorem pn_X3_appendTwin : plainName (mY M_X3_appendTwin).cls = true := by decide +kernel
abbrev M_X3_merge : MI := (yX3_merge, cX3_merge, 5, none, 2, 64)
theorem mc_X3_merge : MC M_X3_merge 2 := ⟨kc_X3_merge, in_X3, by decide +kernel, by decide +kernel, by decide +kernel⟩
theorem pn_X3_merge : plainName (mY M_X3_merge).cls = true := by decide +kernel
abbrev M_X3_addInto : MI := (yX3_addInto, cX3_addInto, 3, none, 1, 21)
theorem mc_X3_addInto : MC M_X3_addInto 2 := ⟨kc_X3_addInto, in_X3, by decide +kernel, by decide +kernel, by decide +kernel⟩
theorem pn_X3_addInto : plainName (mY M_X3_addInto).cls = true := by decide +kernel
abbrev M_X3_dropState : MI := (yX3_dropState, cX3_dropState, 5, none, 1, 40)
theorem mc_X3_dropState : MC M_X3_dropState 1 := ⟨kc_X3_dropState, in_X3, by decide +kernel, by decide +kernel, by decide +kernel⟩
theorem pn_X3_dropState : plainName (mY M_X3_dropState).cls = true := by decide +kernel
abbrev M_X3_beginSample : MI := (yX3_beginSample, cX3_beginSample, 1, none, 0, 0)
theorem mc_X3_beginSample : MC M_X3_beginSample 0 := ⟨kc_X3_beginSample, in_X3, by decide +kernel, by decide +kernel, by decide +kernel⟩
theorem pn_X3_beginSample : plainName (mY M_X3_beginSample).cls = true := by decide +kernel
abbrev M_X3_appendSign : MI := (yX3_appendSign, cX3_appendSign, 3, none, 0, 0)
theorem mc_X3_appendSign : MC M_X3_appendSign 1 := ⟨kc_X3_appendSign, in_X3, by decide +kernel, by decide +kernel, by decide +kernel⟩
theorem pn_X3_appendSign : plainName (mY M_X3_appendSign).cls = true := by decide +kernel
abbrev M_X3_dropSample : MI := (yX3_dropSample, cX3_dropSample, 4, none, 1, 40)
theorem mc_X3_dropSample : MC M_X3_dropSample 1 := ⟨kc_X3_dropSample, in_X3, by decide +kernel, by decide +kernel, by decide +kernel⟩
theorem pn_X3_dropSample : plainName (mY M_X3_dropSample).cls = true := by decide +kernel
abbrev M_X4_read : MI := (yX4_read, cX4_read, 7, none, 3, 70)
theorem mc_X4_read : MC M_X4_read 1 := ⟨kc_X4_read, in_X4, by decide +kernel, by decide +kernel, by decide +kernel⟩
theorem pn_X4_read : plainName (mY M_X4_read).cls = true := by decide +kernel
abbrev M_X4_partsBehind : MI := (yX4_partsBehind, cX4_partsBehind, 5, (some .int), 2, 46)
theorem mc_X4_partsBehind : MC M_X4_partsBehind 2 := ⟨kc_X4_partsBehind, in_X4, by decide +kernel, by decide +kernel, by decide +kernel⟩
theorem pn_X4_partsBehind : plainName (mY M_X4_partsBehind).cls = true := by decide +kernel
abbrev M_X4_entering : MI := (yX4_entering, cX4_entering, 5, (some .int), 1, 22)
theorem mc_X4_entering : MC M_X4_entering 3 := ⟨kc_X4_entering, in_X4, by decide +kernel, by decide +kernel, by decide +kernel⟩
theorem pn_X4_entering : plainName (mY M_X4_entering).cls = true := by decide +kernel
abbrev M_X4_stateAt : MI := (yX4_stateAt, cX4_stateAt, 7, (some .int), 2, 46)
theorem mc_X4_stateAt : MC M_X4_stateAt 2 := ⟨kc_X4_stateAt, in_X4, by decide +kernel, by decide +kernel, by decide +kernel⟩
theorem pn_X4_stateAt : plainName (mY M_X4_stateAt).cls = true := by decide +kernel
abbrev M_X5_append : MI := (yX5_append, cX5_append, 2, none, 0, 0)
theorem mc_X5_append : MC M_X5_append 1 := ⟨kc_X5_append, in_X5, by decide +kernel, by decide +kernel, by decide +kernel⟩
theorem pn_X5_append : plainName (mY M_X5_append).cls = true := by decide +kernel
abbrev M_X5_empty : MI := (yX5_empty, cX5_empty, 1, none, 0, 0)
theorem mc_X5_empty : MC M_X5_empty 0 := ⟨kc_X5_empty, in_X5, by decide +kernel, by decide +kernel, by decide +kernel⟩
theorem pn_X5_empty : plainName (mY M_X5_empty).cls = true := by decide +kernel
abbrev M_X5_fault : MI := (yX5_fault, cX5_fault, 4, (some .int), 1, 20)
theorem mc_X5_fault : MC M_X5_fault 0 := ⟨kc_X5_fault, in_X5, by decide +kernel, by decide +kernel, by decide +kernel⟩
theorem pn_X5_fault : plainName (mY M_X5_fault).cls = true := by decide +kernel
abbrev M_X5_isLetter : MI := (yX5_isLetter, cX5_isLetter, 1, (some .boolean), 0, 0)
theorem mc_X5_isLetter : MC M_X5_isLetter 1 := ⟨kc_X5_isLetter, in_X5, by decide +kernel, by decide +kernel, by decide +kernel⟩
theorem pn_X5_isLetter : plainName (mY M_X5_isLetter).cls = true := by decide +kernel
abbrev M_X5_samples : MI := (yX5_samples, cX5_samples, 3, (some .int), 0, 0)
theorem mc_X5_samples : MC M_X5_samples 0 := ⟨kc_X5_samples, in_X5, by decide +kernel, by decide +kernel, by decide +kernel⟩
theorem pn_X5_samples : plainName (mY M_X5_samples).cls = true := by decide +kernel
abbrev M_X5_appendTo : MI := (yX5_appendTo, cX5_appendTo, 3, none, 1, 22)
theorem mc_X5_appendTo : MC M_X5_appendTo 1 := ⟨kc_X5_appendTo, in_X5, by decide +kernel, by decide +kernel, by decide +kernel⟩
theorem pn_X5_appendTo : plainName (mY M_X5_appendTo).cls = true := by decide +kernel
abbrev M_X6_read : MI := (yX6_read, cX6_read, 4, none, 4, 95)
theorem mc_X6_read : MC M_X6_read 1 := ⟨kc_X6_read, in_X6, by decide +kernel, by decide +kernel, by decide +kernel⟩
theorem pn_X6_read : plainName (mY M_X6_read).cls = true := by decide +kernel
abbrev M_X6_aheadOf : MI := (yX6_aheadOf, cX6_aheadOf, 6, (some .long), 2, 45)
theorem mc_X6_aheadOf : MC M_X6_aheadOf 2 := ⟨kc_X6_aheadOf, in_X6, by decide +kernel, by decide +kernel, by decide +kernel⟩
theorem pn_X6_aheadOf : plainName (mY M_X6_aheadOf).cls = true := by decide +kernel
abbrev M_X6_behindOf : MI := (yX6_behindOf, cX6_behindOf, 6, (some .long), 3, 70)
theorem mc_X6_behindOf : MC M_X6_behindOf 2 := ⟨kc_X6_behindOf, in_X6, by decide +kernel, by decide +kernel, by decide +kernel⟩
theorem pn_X6_behindOf : plainName (mY M_X6_behindOf).cls = true := by decide +kernel
abbrev M_X6_stepBehind : MI := (yX6_stepBehind, cX6_stepBehind, 6, (some .long), 2, 45)
theorem mc_X6_stepBehind : MC M_X6_stepBehind 3 := ⟨kc_X6_stepBehind, in_X6, by decide +kernel, by decide +kernel, by decide +kernel⟩
theorem pn_X6_stepBehind : plainName (mY M_X6_stepBehind).cls = true := by decide +kernel
abbrev M_X6_at : MI := (yX6_at, cX6_at, 4, (some .long), 0, 0)
theorem mc_X6_at : MC M_X6_at 2 := ⟨kc_X6_at, in_X6, by decide +kernel, by decide +kernel, by decide +kernel⟩
theorem pn_X6_at : plainName (mY M_X6_at).cls = true := by decide +kernel
abbrev M_X6_showing : MI := (yX6_showing, cX6_showing, 6, (some .long), 1, 23)
theorem mc_X6_showing : MC M_X6_showing 2 := ⟨kc_X6_showing, in_X6, by decide +kernel, by decide +kernel, by decide +kernel⟩
theorem pn_X6_showing : plainName (mY M_X6_showing).cls = true := by decide +kernel
abbrev M_X6_goingOn : MI := (yX6_goingOn, cX6_goingOn, 6, (some .long), 3, 70)
theorem mc_X6_goingOn : MC M_X6_goingOn 2 := ⟨kc_X6_goingOn, in_X6, by decide +kernel, by decide +kernel, by decide +kernel⟩
theorem pn_X6_goingOn : plainName (mY M_X6_goingOn).cls = true := by decide +kernel
abbrev M_X6_behindLast : MI := (yX6_behindLast, cX6_behindLast, 8, (some .long), 1, 23)
theorem mc_X6_behindLast : MC M_X6_behindLast 1 := ⟨kc_X6_behindLast, in_X6, by decide +kernel, by decide +kernel, by decide +kernel⟩
theorem pn_X6_behindLast : plainName (mY M_X6_behindLast).cls = true := by decide +kernel
abbrev M_X6_likeliestAt : MI := (yX6_likeliestAt, cX6_likeliestAt, 4, (some .int), 1, 23)
theorem mc_X6_likeliestAt : MC M_X6_likeliestAt 1 := ⟨kc_X6_likeliestAt, in_X6, by decide +kernel, by decide +kernel, by decide +kernel⟩
theorem pn_X6_likeliestAt : plainName (mY M_X6_likeliestAt).cls = true := by decide +kernel
abbrev M_X6_doubtfulPlaces : MI := (yX6_doubtfulPlaces, cX6_doubtfulPlaces, 3, (some .int), 2, 46)
theorem mc_X6_doubtfulPlaces : MC M_X6_doubtfulPlaces 0 := ⟨kc_X6_doubtfulPlaces, in_X6, by decide +kernel, by decide +kernel, by decide +kernel⟩
theorem pn_X6_doubtfulPlaces : plainName (mY M_X6_doubtfulPlaces).cls = true := by decide +kernel
abbrev M_X7_setWeight : MI := (yX7_setWeight, cX7_setWeight, 7, (some .int), 3, 82)
theorem mc_X7_setWeight : MC M_X7_setWeight 4 := ⟨kc_X7_setWeight, in_X7, by decide +kernel, by decide +kernel, by decide +kernel⟩
theorem pn_X7_setWeight : plainName (mY M_X7_setWeight).cls = true := by decide +kernel
abbrev M_X7_addState : MI := (yX7_addState, cX7_addState, 1, (some .int), 3, 82)
theorem mc_X7_addState : MC M_X7_addState 0 := ⟨kc_X7_addState, in_X7, by decide +kernel, by decide +kernel, by decide +kernel⟩
theorem pn_X7_addState : plainName (mY M_X7_addState).cls = true := by decide +kernel
abbrev M_X7_split : MI := (yX7_split, cX7_split, 2, (some .int), 3, 82)
theorem mc_X7_split : MC M_X7_split 1 := ⟨kc_X7_split, in_X7, by decide +kernel, by decide +kernel, by decide +kernel⟩
theorem pn_X7_split : plainName (mY M_X7_split).cls = true := by decide +kernel
abbrev M_X7_join : MI := (yX7_join, cX7_join, 3, (some .int), 3, 88)
theorem mc_X7_join : MC M_X7_join 2 := ⟨kc_X7_join, in_X7, by decide +kernel, by decide +kernel, by decide +kernel⟩
theorem pn_X7_join : plainName (mY M_X7_join).cls = true := by decide +kernel
abbrev M_X7_removeState : MI := (yX7_removeState, cX7_removeState, 2, (some .int), 3, 82)
theorem mc_X7_removeState : MC M_X7_removeState 1 := ⟨kc_X7_removeState, in_X7, by decide +kernel, by decide +kernel, by decide +kernel⟩
theorem pn_X7_removeState : plainName (mY M_X7_removeState).cls = true := by decide +kernel
abbrev M_X7_setBound : MI := (yX7_setBound, cX7_setBound, 3, (some .int), 3, 82)
theorem mc_X7_setBound : MC M_X7_setBound 1 := ⟨kc_X7_setBound, in_X7, by decide +kernel, by decide +kernel, by decide +kernel⟩
theorem pn_X7_setBound : plainName (mY M_X7_setBound).cls = true := by decide +kernel
abbrev M_X7_addSamples : MI := (yX7_addSamples, cX7_addSamples, 3, (some .int), 3, 82)
theorem mc_X7_addSamples : MC M_X7_addSamples 0 := ⟨kc_X7_addSamples, in_X7, by decide +kernel, by decide +kernel, by decide +kernel⟩
theorem pn_X7_addSamples : plainName (mY M_X7_addSamples).cls = true := by decide +kernel
abbrev M_X7_removeSample : MI := (yX7_removeSample, cX7_removeSample, 2, (some .int), 3, 82)
theorem mc_X7_removeSample : MC M_X7_removeSample 1 := ⟨kc_X7_removeSample, in_X7, by decide +kernel, by decide +kernel, by decide +kernel⟩
theorem pn_X7_removeSample : plainName (mY M_X7_removeSample).cls = true := by decide +kernel
abbrev M_X7_learn : MI := (yX7_learn, cX7_learn, 4, (some .int), 6, 139)
theorem mc_X7_learn : MC M_X7_learn 1 := ⟨kc_X7_learn, in_X7, by decide +kernel, by decide +kernel, by decide +kernel⟩
theorem pn_X7_learn : plainName (mY M_X7_learn).cls = true := by decide +kernel
abbrev M_X7_type : MI := (yX7_type, cX7_type, 2, (some .int), 1, 21)
theorem mc_X7_type : MC M_X7_type 1 := ⟨kc_X7_type, in_X7, by decide +kernel, by decide +kernel, by decide +kernel⟩
theorem pn_X7_type : plainName (mY M_X7_type).cls = true := by decide +kernel
abbrev M_X7_clearText : MI := (yX7_clearText, cX7_clearText, 2, (some .int), 1, 20)
theorem mc_X7_clearText : MC M_X7_clearText 0 := ⟨kc_X7_clearText, in_X7, by decide +kernel, by decide +kernel, by decide +kernel⟩
theorem pn_X7_clearText : plainName (mY M_X7_clearText).cls = true := by decide +kernel
abbrev M_X7_undo : MI := (yX7_undo, cX7_undo, 1, (some .int), 3, 82)
theorem mc_X7_undo : MC M_X7_undo 0 := ⟨kc_X7_undo, in_X7, by decide +kernel, by decide +kernel, by decide +kernel⟩
theorem pn_X7_undo : plainName (mY M_X7_undo).cls = true := by decide +kernel
abbrev M_X7_keep : MI := (yX7_keep, cX7_keep, 1, (some .int), 2, 61)
theorem mc_X7_keep : MC M_X7_keep 0 := ⟨kc_X7_keep, in_X7, by decide +kernel, by decide +kernel, by decide +kernel⟩
theorem pn_X7_keep : plainName (mY M_X7_keep).cls = true := by decide +kernel
abbrev M_X7_restore : MI := (yX7_restore, cX7_restore, 1, (some .int), 3, 82)
theorem mc_X7_restore : MC M_X7_restore 0 := ⟨kc_X7_restore, in_X7, by decide +kernel, by decide +kernel, by decide +kernel⟩
theorem pn_X7_restore : plainName (mY M_X7_restore).cls = true := by decide +kernel
abbrev M_X7_weight : MI := (yX7_weight, cX7_weight, 5, (some .int), 3, 76)
theorem mc_X7_weight : MC M_X7_weight 4 := ⟨kc_X7_weight, in_X7, by decide +kernel, by decide +kernel, by decide +kernel⟩
theorem pn_X7_weight : plainName (mY M_X7_weight).cls = true := by decide +kernel
abbrev M_X7_sign : MI := (yX7_sign, cX7_sign, 3, (some .int), 2, 43)
theorem mc_X7_sign : MC M_X7_sign 2 := ⟨kc_X7_sign, in_X7, by decide +kernel, by decide +kernel, by decide +kernel⟩
theorem pn_X7_sign : plainName (mY M_X7_sign).cls = true := by decide +kernel
abbrev M_X7_ofSample : MI := (yX7_ofSample, cX7_ofSample, 3, (some .long), 5, 118)
theorem mc_X7_ofSample : MC M_X7_ofSample 2 := ⟨kc_X7_ofSample, in_X7, by decide +kernel, by decide +kernel, by decide +kernel⟩
theorem pn_X7_ofSample : plainName (mY M_X7_ofSample).cls = true := by decide +kernel
abbrev M_X7_best : MI := (yX7_best, cX7_best, 3, (some .int), 4, 95)
theorem mc_X7_best : MC M_X7_best 2 := ⟨kc_X7_best, in_X7, by decide +kernel, by decide +kernel, by decide +kernel⟩
theorem pn_X7_best : plainName (mY M_X7_best).cls = true := by decide +kernel
abbrev M_X7_share : MI := (yX7_share, cX7_share, 4, (some .int), 5, 118)
theorem mc_X7_share : MC M_X7_share 3 := ⟨kc_X7_share, in_X7, by decide +kernel, by decide +kernel, by decide +kernel⟩
theorem pn_X7_share : plainName (mY M_X7_share).cls = true := by decide +kernel
abbrev M_X7_likeliest : MI := (yX7_likeliest, cX7_likeliest, 3, (some .int), 5, 118)
theorem mc_X7_likeliest : MC M_X7_likeliest 2 := ⟨kc_X7_likeliest, in_X7, by decide +kernel, by decide +kernel, by decide +kernel⟩
theorem pn_X7_likeliest : plainName (mY M_X7_likeliest).cls = true := by decide +kernel
abbrev M_X7_doubtful : MI := (yX7_doubtful, cX7_doubtful, 2, (some .int), 5, 118)
theorem mc_X7_doubtful : MC M_X7_doubtful 1 := ⟨kc_X7_doubtful, in_X7, by decide +kernel, by decide +kernel, by decide +kernel⟩
theorem pn_X7_doubtful : plainName (mY M_X7_doubtful).cls = true := by decide +kernel
abbrev M_X7_run : MI := (yX7_run, cX7_run, 4, (some .int), 4, 96)
theorem mc_X7_run : MC M_X7_run 3 := ⟨kc_X7_run, in_X7, by decide +kernel, by decide +kernel, by decide +kernel⟩
theorem pn_X7_run : plainName (mY M_X7_run).cls = true := by decide +kernel
abbrev M_X7_next : MI := (yX7_next, cX7_next, 6, (some .int), 5, 118)
theorem mc_X7_next : MC M_X7_next 2 := ⟨kc_X7_next, in_X7, by decide +kernel, by decide +kernel, by decide +kernel⟩
theorem pn_X7_next : plainName (mY M_X7_next).cls = true := by decide +kernel
abbrev M_X7_count : MI := (yX7_count, cX7_count, 2, (some .int), 6, 140)
theorem mc_X7_count : MC M_X7_count 1 := ⟨kc_X7_count, in_X7, by decide +kernel, by decide +kernel, by decide +kernel⟩
theorem pn_X7_count : plainName (mY M_X7_count).cls = true := by decide +kernel
abbrev M_X7_isKind : MI := (yX7_isKind, cX7_isKind, 1, (some .boolean), 0, 0)
theorem mc_X7_isKind : MC M_X7_isKind 1 := ⟨kc_X7_isKind, in_X7, by decide +kernel, by decide +kernel, by decide +kernel⟩
theorem pn_X7_isKind : plainName (mY M_X7_isKind).cls = true := by decide +kernel
abbrev M_X7_shareOf : MI := (yX7_shareOf, cX7_shareOf, 9, (some .int), 0, 0)
theorem mc_X7_shareOf : MC M_X7_shareOf 2 := ⟨kc_X7_shareOf, in_X7, by decide +kernel, by decide +kernel, by decide +kernel⟩
theorem pn_X7_shareOf : plainName (mY M_X7_shareOf).cls = true := by decide +kernel
abbrev M_X7_allDoubtful : MI := (yX7_allDoubtful, cX7_allDoubtful, 3, (some .int), 5, 118)
theorem mc_X7_allDoubtful : MC M_X7_allDoubtful 0 := ⟨kc_X7_allDoubtful, in_X7, by decide +kernel, by decide +kernel, by decide +kernel⟩
theorem pn_X7_allDoubtful : plainName (mY M_X7_allDoubtful).cls = true := by decide +kernel
abbrev M_X7_samplesWithoutTotal : MI := (yX7_samplesWithoutTotal, cX7_samplesWithoutTotal, 3, (some .int), 5, 118)
theorem mc_X7_samplesWithoutTotal : MC M_X7_samplesWithoutTotal 0 := ⟨kc_X7_samplesWithoutTotal, in_X7, by decide +kernel, by decide +kernel, by decide +kernel⟩
theorem pn_X7_samplesWithoutTotal : plainName (mY M_X7_samplesWithoutTotal).cls = true := by decide +kernel
abbrev M_X7_placesOffBest : MI := (yX7_placesOffBest, cX7_placesOffBest, 3, (some .int), 5, 118)
theorem mc_X7_placesOffBest : MC M_X7_placesOffBest 0 := ⟨kc_X7_placesOffBest, in_X7, by decide +kernel, by decide +kernel, by decide +kernel⟩
theorem pn_X7_placesOffBest : plainName (mY M_X7_placesOffBest).cls = true := by decide +kernel
abbrev M_X7_placesOffPath : MI := (yX7_placesOffPath, cX7_placesOffPath, 4, (some .int), 2, 46)
theorem mc_X7_placesOffPath : MC M_X7_placesOffPath 1 := ⟨kc_X7_placesOffPath, in_X7, by decide +kernel, by decide +kernel, by decide +kernel⟩
theorem pn_X7_placesOffPath : plainName (mY M_X7_placesOffPath).cls = true := by decide +kernel
abbrev M_X8_in : MI := (yX8_in, cX8_in, 3, (some .boolean), 0, 0)
theorem mc_X8_in : MC M_X8_in 3 := ⟨kc_X8_in, in_X8, by decide +kernel, by decide +kernel, by decide +kernel⟩
theorem pn_X8_in : plainName (mY M_X8_in).cls = true := by decide +kernel
abbrev M_X8_isState : MI := (yX8_isState, cX8_isState, 2, (some .boolean), 1, 22)
theorem mc_X8_isState : MC M_X8_isState 1 := ⟨kc_X8_isState, in_X8, by decide +kernel, by decide +kernel, by decide +kernel⟩
theorem pn_X8_isState : plainName (mY M_X8_isState).cls = true := by decide +kernel
abbrev M_X8_isSample : MI := (yX8_isSample, cX8_isSample, 2, (some .boolean), 1, 22)
theorem mc_X8_isSample : MC M_X8_isSample 1 := ⟨kc_X8_isSample, in_X8, by decide +kernel, by decide +kernel, by decide +kernel⟩
theorem pn_X8_isSample : plainName (mY M_X8_isSample).cls = true := by decide +kernel
abbrev M_X8_go : MI := (yX8_go, cX8_go, 3, (some .int), 0, 0)
theorem mc_X8_go : MC M_X8_go 2 := ⟨kc_X8_go, in_X8, by decide +kernel, by decide +kernel, by decide +kernel⟩
theorem pn_X8_go : plainName (mY M_X8_go).cls = true := by decide +kernel
abbrev M_X8_show : MI := (yX8_show, cX8_show, 3, (some .int), 0, 0)
theorem mc_X8_show : MC M_X8_show 2 := ⟨kc_X8_show, in_X8, by decide +kernel, by decide +kernel, by decide +kernel⟩
theorem pn_X8_show : plainName (mY M_X8_show).cls = true := by decide +kernel
abbrev M_X8_placesOf : MI := (yX8_placesOf, cX8_placesOf, 2, (some .int), 0, 0)
theorem mc_X8_placesOf : MC M_X8_placesOf 1 := ⟨kc_X8_placesOf, in_X8, by decide +kernel, by decide +kernel, by decide +kernel⟩
theorem pn_X8_placesOf : plainName (mY M_X8_placesOf).cls = true := by decide +kernel
abbrev M_X8_signAt : MI := (yX8_signAt, cX8_signAt, 3, (some .int), 0, 0)
theorem mc_X8_signAt : MC M_X8_signAt 2 := ⟨kc_X8_signAt, in_X8, by decide +kernel, by decide +kernel, by decide +kernel⟩
theorem pn_X8_signAt : plainName (mY M_X8_signAt).cls = true := by decide +kernel
abbrev M_X8_fills : MI := (yX8_fills, cX8_fills, 3, none, 0, 0)
theorem mc_X8_fills : MC M_X8_fills 1 := ⟨kc_X8_fills, in_X8, by decide +kernel, by decide +kernel, by decide +kernel⟩
theorem pn_X8_fills : plainName (mY M_X8_fills).cls = true := by decide +kernel
abbrev M_X8_records : MI := (yX8_records, cX8_records, 2, none, 0, 0)
theorem mc_X8_records : MC M_X8_records 0 := ⟨kc_X8_records, in_X8, by decide +kernel, by decide +kernel, by decide +kernel⟩
theorem pn_X8_records : plainName (mY M_X8_records).cls = true := by decide +kernel
abbrev M_X8_laysRuns : MI := (yX8_laysRuns, cX8_laysRuns, 8, none, 3, 80)
theorem mc_X8_laysRuns : MC M_X8_laysRuns 1 := ⟨kc_X8_laysRuns, in_X8, by decide +kernel, by decide +kernel, by decide +kernel⟩
theorem pn_X8_laysRuns : plainName (mY M_X8_laysRuns).cls = true := by decide +kernel
abbrev M_X8_step : MI := (yX8_step, cX8_step, 5, (some .long), 1, 22)
theorem mc_X8_step : MC M_X8_step 4 := ⟨kc_X8_step, in_X8, by decide +kernel, by decide +kernel, by decide +kernel⟩
theorem pn_X8_step : plainName (mY M_X8_step).cls = true := by decide +kernel
abbrev M_X8_laysBehind : MI := (yX8_laysBehind, cX8_laysBehind, 15, none, 2, 46)
theorem mc_X8_laysBehind : MC M_X8_laysBehind 3 := ⟨kc_X8_laysBehind, in_X8, by decide +kernel, by decide +kernel, by decide +kernel⟩
theorem pn_X8_laysBehind : plainName (mY M_X8_laysBehind).cls = true := by decide +kernel
abbrev M_X8_weightAt : MI := (yX8_weightAt, cX8_weightAt, 3, (some .long), 0, 0)
theorem mc_X8_weightAt : MC M_X8_weightAt 2 := ⟨kc_X8_weightAt, in_X8, by decide +kernel, by decide +kernel, by decide +kernel⟩
theorem pn_X8_weightAt : plainName (mY M_X8_weightAt).cls = true := by decide +kernel
abbrev M_X8_total : MI := (yX8_total, cX8_total, 4, (some .long), 1, 22)
theorem mc_X8_total : MC M_X8_total 0 := ⟨kc_X8_total, in_X8, by decide +kernel, by decide +kernel, by decide +kernel⟩
theorem pn_X8_total : plainName (mY M_X8_total).cls = true := by decide +kernel
abbrev M_X8_runsThatCount : MI := (yX8_runsThatCount, cX8_runsThatCount, 4, (some .long), 0, 0)
theorem mc_X8_runsThatCount : MC M_X8_runsThatCount 0 := ⟨kc_X8_runsThatCount, in_X8, by decide +kernel, by decide +kernel, by decide +kernel⟩
theorem pn_X8_runsThatCount : plainName (mY M_X8_runsThatCount).cls = true := by decide +kernel
abbrev M_X8_bestWeight : MI := (yX8_bestWeight, cX8_bestWeight, 6, (some .long), 0, 0)
theorem mc_X8_bestWeight : MC M_X8_bestWeight 0 := ⟨kc_X8_bestWeight, in_X8, by decide +kernel, by decide +kernel, by decide +kernel⟩
theorem pn_X8_bestWeight : plainName (mY M_X8_bestWeight).cls = true := by decide +kernel
abbrev M_X8_shareOf : MI := (yX8_shareOf, cX8_shareOf, 9, (some .int), 0, 0)
theorem mc_X8_shareOf : MC M_X8_shareOf 2 := ⟨kc_X8_shareOf, in_X8, by decide +kernel, by decide +kernel, by decide +kernel⟩
theorem pn_X8_shareOf : plainName (mY M_X8_shareOf).cls = true := by decide +kernel
abbrev M_X8_bestAt : MI := (yX8_bestAt, cX8_bestAt, 8, (some .int), 2, 46)
theorem mc_X8_bestAt : MC M_X8_bestAt 2 := ⟨kc_X8_bestAt, in_X8, by decide +kernel, by decide +kernel, by decide +kernel⟩
theorem pn_X8_bestAt : plainName (mY M_X8_bestAt).cls = true := by decide +kernel
abbrev M_X8_runAt : MI := (yX8_runAt, cX8_runAt, 10, (some .int), 2, 46)
theorem mc_X8_runAt : MC M_X8_runAt 3 := ⟨kc_X8_runAt, in_X8, by decide +kernel, by decide +kernel, by decide +kernel⟩
theorem pn_X8_runAt : plainName (mY M_X8_runAt).cls = true := by decide +kernel
abbrev M_X8_likeliestAt : MI := (yX8_likeliestAt, cX8_likeliestAt, 4, (some .int), 1, 22)
theorem mc_X8_likeliestAt : MC M_X8_likeliestAt 1 := ⟨kc_X8_likeliestAt, in_X8, by decide +kernel, by decide +kernel, by decide +kernel⟩
theorem pn_X8_likeliestAt : plainName (mY M_X8_likeliestAt).cls = true := by decide +kernel
abbrev M_X8_placeOf : MI := (yX8_placeOf, cX8_placeOf, 5, (some .int), 2, 43)
theorem mc_X8_placeOf : MC M_X8_placeOf 3 := ⟨kc_X8_placeOf, in_X8, by decide +kernel, by decide +kernel, by decide +kernel⟩
theorem pn_X8_placeOf : plainName (mY M_X8_placeOf).cls = true := by decide +kernel
abbrev M_X8_setWeight : MI := (yX8_setWeight, cX8_setWeight, 7, (some .int), 3, 67)
theorem mc_X8_setWeight : MC M_X8_setWeight 4 := ⟨kc_X8_setWeight, in_X8, by decide +kernel, by decide +kernel, by decide +kernel⟩
theorem pn_X8_setWeight : plainName (mY M_X8_setWeight).cls = true := by decide +kernel
abbrev M_X8_addState : MI := (yX8_addState, cX8_addState, 1, (some .int), 1, 22)
theorem mc_X8_addState : MC M_X8_addState 0 := ⟨kc_X8_addState, in_X8, by decide +kernel, by decide +kernel, by decide +kernel⟩
theorem pn_X8_addState : plainName (mY M_X8_addState).cls = true := by decide +kernel
abbrev M_X8_split : MI := (yX8_split, cX8_split, 5, (some .int), 2, 43)
theorem mc_X8_split : MC M_X8_split 1 := ⟨kc_X8_split, in_X8, by decide +kernel, by decide +kernel, by decide +kernel⟩
theorem pn_X8_split : plainName (mY M_X8_split).cls = true := by decide +kernel
abbrev M_X8_drops : MI := (yX8_drops, cX8_drops, 4, none, 1, 22)
theorem mc_X8_drops : MC M_X8_drops 1 := ⟨kc_X8_drops, in_X8, by decide +kernel, by decide +kernel, by decide +kernel⟩
theorem pn_X8_drops : plainName (mY M_X8_drops).cls = true := by decide +kernel
abbrev M_X8_clears : MI := (yX8_clears, cX8_clears, 3, none, 0, 0)
theorem mc_X8_clears : MC M_X8_clears 1 := ⟨kc_X8_clears, in_X8, by decide +kernel, by decide +kernel, by decide +kernel⟩
theorem pn_X8_clears : plainName (mY M_X8_clears).cls = true := by decide +kernel
abbrev M_X8_capped : MI := (yX8_capped, cX8_capped, 1, (some .int), 0, 0)
theorem mc_X8_capped : MC M_X8_capped 1 := ⟨kc_X8_capped, in_X8, by decide +kernel, by decide +kernel, by decide +kernel⟩
theorem pn_X8_capped : plainName (mY M_X8_capped).cls = true := by decide +kernel
abbrev M_X8_join : MI := (yX8_join, cX8_join, 7, (some .int), 2, 45)
theorem mc_X8_join : MC M_X8_join 2 := ⟨kc_X8_join, in_X8, by decide +kernel, by decide +kernel, by decide +kernel⟩
theorem pn_X8_join : plainName (mY M_X8_join).cls = true := by decide +kernel
abbrev M_X8_removeState : MI := (yX8_removeState, cX8_removeState, 2, (some .int), 2, 45)
theorem mc_X8_removeState : MC M_X8_removeState 1 := ⟨kc_X8_removeState, in_X8, by decide +kernel, by decide +kernel, by decide +kernel⟩
theorem pn_X8_removeState : plainName (mY M_X8_removeState).cls = true := by decide +kernel
abbrev M_X8_setBound : MI := (yX8_setBound, cX8_setBound, 3, (some .int), 1, 22)
theorem mc_X8_setBound : MC M_X8_setBound 1 := ⟨kc_X8_setBound, in_X8, by decide +kernel, by decide +kernel, by decide +kernel⟩
theorem pn_X8_setBound : plainName (mY M_X8_setBound).cls = true := by decide +kernel
abbrev M_X8_letter : MI := (yX8_letter, cX8_letter, 1, (some .int), 0, 0)
theorem mc_X8_letter : MC M_X8_letter 0 := ⟨kc_X8_letter, in_X8, by decide +kernel, by decide +kernel, by decide +kernel⟩
theorem pn_X8_letter : plainName (mY M_X8_letter).cls = true := by decide +kernel
abbrev M_X8_readsSample : MI := (yX8_readsSample, cX8_readsSample, 2, none, 1, 22)
theorem mc_X8_readsSample : MC M_X8_readsSample 0 := ⟨kc_X8_readsSample, in_X8, by decide +kernel, by decide +kernel, by decide +kernel⟩
theorem pn_X8_readsSample : plainName (mY M_X8_readsSample).cls = true := by decide +kernel
abbrev M_X8_reads : MI := (yX8_reads, cX8_reads, 1, (some .int), 2, 43)
theorem mc_X8_reads : MC M_X8_reads 0 := ⟨kc_X8_reads, in_X8, by decide +kernel, by decide +kernel, by decide +kernel⟩
theorem pn_X8_reads : plainName (mY M_X8_reads).cls = true := by decide +kernel
abbrev M_X8_addSamples : MI := (yX8_addSamples, cX8_addSamples, 4, (some .int), 3, 63)
theorem mc_X8_addSamples : MC M_X8_addSamples 0 := ⟨kc_X8_addSamples, in_X8, by decide +kernel, by decide +kernel, by decide +kernel⟩
theorem pn_X8_addSamples : plainName (mY M_X8_addSamples).cls = true := by decide +kernel
abbrev M_X8_removeSample : MI := (yX8_removeSample, cX8_removeSample, 3, (some .int), 2, 43)
theorem mc_X8_removeSample : MC M_X8_removeSample 1 := ⟨kc_X8_removeSample, in_X8, by decide +kernel, by decide +kernel, by decide +kernel⟩
theorem pn_X8_removeSample : plainName (mY M_X8_removeSample).cls = true := by decide +kernel
abbrev M_X8_counts : MI := (yX8_counts, cX8_counts, 9, none, 2, 46)
theorem mc_X8_counts : MC M_X8_counts 2 := ⟨kc_X8_counts, in_X8, by decide +kernel, by decide +kernel, by decide +kernel⟩
theorem pn_X8_counts : plainName (mY M_X8_counts).cls = true := by decide +kernel
abbrev M_X8_learnsFamily : MI := (yX8_learnsFamily, cX8_learnsFamily, 8, (some .boolean), 0, 0)
theorem mc_X8_learnsFamily : MC M_X8_learnsFamily 2 := ⟨kc_X8_learnsFamily, in_X8, by decide +kernel, by decide +kernel, by decide +kernel⟩
theorem pn_X8_learnsFamily : plainName (mY M_X8_learnsFamily).cls = true := by decide +kernel
abbrev M_X8_learnsOnce : MI := (yX8_learnsOnce, cX8_learnsOnce, 4, (some .boolean), 4, 107)
theorem mc_X8_learnsOnce : MC M_X8_learnsOnce 0 := ⟨kc_X8_learnsOnce, in_X8, by decide +kernel, by decide +kernel, by decide +kernel⟩
theorem pn_X8_learnsOnce : plainName (mY M_X8_learnsOnce).cls = true := by decide +kernel
abbrev M_X8_learn : MI := (yX8_learn, cX8_learn, 3, (some .int), 5, 130)
theorem mc_X8_learn : MC M_X8_learn 1 := ⟨kc_X8_learn, in_X8, by decide +kernel, by decide +kernel, by decide +kernel⟩
theorem pn_X8_learn : plainName (mY M_X8_learn).cls = true := by decide +kernel
abbrev M_X8_swapsAside : MI := (yX8_swapsAside, cX8_swapsAside, 3, none, 0, 0)
theorem mc_X8_swapsAside : MC M_X8_swapsAside 0 := ⟨kc_X8_swapsAside, in_X8, by decide +kernel, by decide +kernel, by decide +kernel⟩
theorem pn_X8_swapsAside : plainName (mY M_X8_swapsAside).cls = true := by decide +kernel
abbrev M_X8_type : MI := (yX8_type, cX8_type, 2, (some .int), 0, 0)
theorem mc_X8_type : MC M_X8_type 1 := ⟨kc_X8_type, in_X8, by decide +kernel, by decide +kernel, by decide +kernel⟩
theorem pn_X8_type : plainName (mY M_X8_type).cls = true := by decide +kernel
abbrev M_X8_clearText : MI := (yX8_clearText, cX8_clearText, 2, (some .int), 0, 0)
theorem mc_X8_clearText : MC M_X8_clearText 0 := ⟨kc_X8_clearText, in_X8, by decide +kernel, by decide +kernel, by decide +kernel⟩
theorem pn_X8_clearText : plainName (mY M_X8_clearText).cls = true := by decide +kernel
abbrev M_X8_undo : MI := (yX8_undo, cX8_undo, 2, (some .int), 0, 0)
theorem mc_X8_undo : MC M_X8_undo 0 := ⟨kc_X8_undo, in_X8, by decide +kernel, by decide +kernel, by decide +kernel⟩
theorem pn_X8_undo : plainName (mY M_X8_undo).cls = true := by decide +kernel
abbrev M_X8_keep : MI := (yX8_keep, cX8_keep, 2, (some .int), 0, 0)
theorem mc_X8_keep : MC M_X8_keep 0 := ⟨kc_X8_keep, in_X8, by decide +kernel, by decide +kernel, by decide +kernel⟩
theorem pn_X8_keep : plainName (mY M_X8_keep).cls = true := by decide +kernel
abbrev M_X8_restore : MI := (yX8_restore, cX8_restore, 2, (some .int), 1, 21)
theorem mc_X8_restore : MC M_X8_restore 0 := ⟨kc_X8_restore, in_X8, by decide +kernel, by decide +kernel, by decide +kernel⟩
theorem pn_X8_restore : plainName (mY M_X8_restore).cls = true := by decide +kernel
abbrev M_X8_laysOdds : MI := (yX8_laysOdds, cX8_laysOdds, 7, none, 0, 0)
theorem mc_X8_laysOdds : MC M_X8_laysOdds 2 := ⟨kc_X8_laysOdds, in_X8, by decide +kernel, by decide +kernel, by decide +kernel⟩
theorem pn_X8_laysOdds : plainName (mY M_X8_laysOdds).cls = true := by decide +kernel
abbrev M_X8_weight : MI := (yX8_weight, cX8_weight, 6, (some .int), 3, 67)
theorem mc_X8_weight : MC M_X8_weight 4 := ⟨kc_X8_weight, in_X8, by decide +kernel, by decide +kernel, by decide +kernel⟩
theorem pn_X8_weight : plainName (mY M_X8_weight).cls = true := by decide +kernel
abbrev M_X8_oddsOf : MI := (yX8_oddsOf, cX8_oddsOf, 4, (some .int), 1, 26)
theorem mc_X8_oddsOf : MC M_X8_oddsOf 3 := ⟨kc_X8_oddsOf, in_X8, by decide +kernel, by decide +kernel, by decide +kernel⟩
theorem pn_X8_oddsOf : plainName (mY M_X8_oddsOf).cls = true := by decide +kernel
abbrev M_X8_isPlace : MI := (yX8_isPlace, cX8_isPlace, 3, (some .boolean), 2, 43)
theorem mc_X8_isPlace : MC M_X8_isPlace 2 := ⟨kc_X8_isPlace, in_X8, by decide +kernel, by decide +kernel, by decide +kernel⟩
theorem pn_X8_isPlace : plainName (mY M_X8_isPlace).cls = true := by decide +kernel
abbrev M_X8_sign : MI := (yX8_sign, cX8_sign, 3, (some .int), 3, 65)
theorem mc_X8_sign : MC M_X8_sign 2 := ⟨kc_X8_sign, in_X8, by decide +kernel, by decide +kernel, by decide +kernel⟩
theorem pn_X8_sign : plainName (mY M_X8_sign).cls = true := by decide +kernel
abbrev M_X8_ofSample : MI := (yX8_ofSample, cX8_ofSample, 3, (some .long), 4, 107)
theorem mc_X8_ofSample : MC M_X8_ofSample 2 := ⟨kc_X8_ofSample, in_X8, by decide +kernel, by decide +kernel, by decide +kernel⟩
theorem pn_X8_ofSample : plainName (mY M_X8_ofSample).cls = true := by decide +kernel
abbrev M_X8_best : MI := (yX8_best, cX8_best, 3, (some .int), 4, 107)
theorem mc_X8_best : MC M_X8_best 2 := ⟨kc_X8_best, in_X8, by decide +kernel, by decide +kernel, by decide +kernel⟩
theorem pn_X8_best : plainName (mY M_X8_best).cls = true := by decide +kernel
abbrev M_X8_share : MI := (yX8_share, cX8_share, 4, (some .int), 4, 107)
theorem mc_X8_share : MC M_X8_share 3 := ⟨kc_X8_share, in_X8, by decide +kernel, by decide +kernel, by decide +kernel⟩
theorem pn_X8_share : plainName (mY M_X8_share).cls = true := by decide +kernel
abbrev M_X8_likeliest : MI := (yX8_likeliest, cX8_likeliest, 3, (some .int), 4, 107)
theorem mc_X8_likeliest : MC M_X8_likeliest 2 := ⟨kc_X8_likeliest, in_X8, by decide +kernel, by decide +kernel, by decide +kernel⟩
theorem pn_X8_likeliest : plainName (mY M_X8_likeliest).cls = true := by decide +kernel
abbrev M_X8_doubts : MI := (yX8_doubts, cX8_doubts, 6, (some .int), 4, 107)
theorem mc_X8_doubts : MC M_X8_doubts 1 := ⟨kc_X8_doubts, in_X8, by decide +kernel, by decide +kernel, by decide +kernel⟩
theorem pn_X8_doubts : plainName (mY M_X8_doubts).cls = true := by decide +kernel
abbrev M_X8_doubtful : MI := (yX8_doubtful, cX8_doubtful, 2, (some .int), 5, 132)
theorem mc_X8_doubtful : MC M_X8_doubtful 1 := ⟨kc_X8_doubtful, in_X8, by decide +kernel, by decide +kernel, by decide +kernel⟩
theorem pn_X8_doubtful : plainName (mY M_X8_doubtful).cls = true := by decide +kernel
abbrev M_X8_run : MI := (yX8_run, cX8_run, 4, (some .int), 4, 107)
theorem mc_X8_run : MC M_X8_run 3 := ⟨kc_X8_run, in_X8, by decide +kernel, by decide +kernel, by decide +kernel⟩
theorem pn_X8_run : plainName (mY M_X8_run).cls = true := by decide +kernel
abbrev M_X8_weightOfNext : MI := (yX8_weightOfNext, cX8_weightOfNext, 8, (some .long), 1, 22)
theorem mc_X8_weightOfNext : MC M_X8_weightOfNext 2 := ⟨kc_X8_weightOfNext, in_X8, by decide +kernel, by decide +kernel, by decide +kernel⟩
theorem pn_X8_weightOfNext : plainName (mY M_X8_weightOfNext).cls = true := by decide +kernel
abbrev M_X8_next : MI := (yX8_next, cX8_next, 5, (some .int), 4, 107)
theorem mc_X8_next : MC M_X8_next 2 := ⟨kc_X8_next, in_X8, by decide +kernel, by decide +kernel, by decide +kernel⟩
theorem pn_X8_next : plainName (mY M_X8_next).cls = true := by decide +kernel
abbrev M_X8_signs : MI := (yX8_signs, cX8_signs, 3, (some .int), 1, 21)
theorem mc_X8_signs : MC M_X8_signs 0 := ⟨kc_X8_signs, in_X8, by decide +kernel, by decide +kernel, by decide +kernel⟩
theorem pn_X8_signs : plainName (mY M_X8_signs).cls = true := by decide +kernel
abbrev M_X8_overSamples : MI := (yX8_overSamples, cX8_overSamples, 7, (some .int), 5, 132)
theorem mc_X8_overSamples : MC M_X8_overSamples 1 := ⟨kc_X8_overSamples, in_X8, by decide +kernel, by decide +kernel, by decide +kernel⟩
theorem pn_X8_overSamples : plainName (mY M_X8_overSamples).cls = true := by decide +kernel
abbrev M_X8_count : MI := (yX8_count, cX8_count, 2, (some .int), 6, 158)
theorem mc_X8_count : MC M_X8_count 1 := ⟨kc_X8_count, in_X8, by decide +kernel, by decide +kernel, by decide +kernel⟩
theorem pn_X8_count : plainName (mY M_X8_count).cls = true := by decide +kernel
abbrev M_J6_bitCount_0f7a4 : MI := (yJ6_bitCount_0f7a4, cJ6_bitCount_0f7a4, 1, (some .int), 0, 0)
theorem mc_J6_bitCount_0f7a4 : MC M_J6_bitCount_0f7a4 1 := ⟨kc_J6_bitCount_0f7a4, in_J6, by decide +kernel, by decide +kernel, by decide +kernel⟩
theorem pn_J6_bitCount_0f7a4 : plainName (mY M_J6_bitCount_0f7a4).cls = true := by decide +kernel
abbrev M_J7_fill_53178 : MI := (yJ7_fill_53178, cJ7_fill_53178, 4, none, 0, 0)
theorem mc_J7_fill_53178 : MC M_J7_fill_53178 2 := ⟨kc_J7_fill_53178, in_J7, by decide +kernel, by decide +kernel, by decide +kernel⟩
theorem pn_J7_fill_53178 : plainName (mY M_J7_fill_53178).cls = true := by decide +kernel
end
section
/-! the state of a model in numbers: a view f; what both sides hold of it -/
abbrev Vw : Type := Nat → Nat
def bW (f : Vw) (s : Nat) : Nat := f (3 + s)
def gW (f : Vw) (s t : Nat) : Nat := f (7 + 4 * s + t)
def sW (f : Vw) (s g : Nat) : Nat := f (23 + 3 * s + g)
def nP (f : Vw) (k : Nat) : Nat := f (35 + 8 * k)
def sG (f : Vw) (k p : Nat) : Nat := f (35 + 8 * k + 1 + p)
/-- a Model of the class at the pointers b .. b + 3 holds f -/
def RC (b : Nat) (f : Vw) (I : Iv) : Prop :=
  I b 1 = nI (f 0) ∧ I b 5 = nI (f 1) ∧ I b 2 = nI (f 2) ∧
  (∀ s, s < f 0 → I (b + 1) (s * 8) = nI (bW f s)) ∧
  (∀ s t, s < f 0 → t < f 0 → I (b + 1) (s * 8 + 1 + t) = nI (gW f s t)) ∧
  (∀ s g, s < f 0 → g < 3 → I (b + 1) (s * 8 + 5 + g) = nI (sW f s g)) ∧
  (∀ k, k < f 1 → I (b + 2) k = nI (nP f k)) ∧
  (∀ k p, k < f 1 → p < nP f k → I (b + 3) (k * 7 + p) = nI (sG f k p))
def Wf (f : Vw) : Prop :=
  (1 ≤ f 0 ∧ f 0 ≤ 4) ∧ f 1 ≤ 6 ∧ (500 ≤ f 2 ∧ f 2 ≤ 1000) ∧
  (∀ s, s < f 0 → bW f s ≤ 6) ∧ (∀ s t, s < f 0 → t < f 0 → gW f s t ≤ 6) ∧ (∀ s g, s < f 0 → g < 3 → sW f s g ≤ 6) ∧
  (∀ k, k < f 1 → 1 ≤ nP f k ∧ nP f k ≤ 7) ∧ (∀ k p, k < f 1 → p < nP f k → sG f k p ≤ 2)
/-- a row of 83 ints of the reference holds f -/
def RR (h : Nat → Int32) (f : Vw) : Prop :=
  h 0 = nI (f 0) ∧ h 1 = nI (f 1) ∧ h 2 = nI (f 2) ∧
  (∀ s, s < f 0 → h (3 + s) = nI (bW f s)) ∧
  (∀ s t, s < f 0 → t < f 0 → h (7 + 4 * s + t) = nI (gW f s t)) ∧
  (∀ s g, s < f 0 → g < 3 → h (23 + 3 * s + g) = nI (sW f s g)) ∧
  (∀ k, k < f 1 → h (35 + 8 * k) = nI (nP f k)) ∧
  (∀ k p, k < f 1 → p < nP f k → h (35 + 8 * k + 1 + p) = nI (sG f k p))
theorem RC.st {b : Nat} {f : Vw} {I : Iv} (h : RC b f I) : I b 1 = nI (f 0) := h.1
theorem RC.sm {b : Nat} {f : Vw} {I : Iv} (h : RC b f I) : I b 5 = nI (f 1) := h.2.1
theorem RC.bd {b : Nat} {f : Vw} {I : Iv} (h : RC b f I) : I b 2 = nI (f 2) := h.2.2.1
theorem RC.b {b : Nat} {f : Vw} {I : Iv} (h : RC b f I) {s : Nat} (hs : s < f 0) : I (b + 1) (s * 8) = nI (bW f s) := h.2.2.2.1 s hs
theorem RC.g {b : Nat} {f : Vw} {I : Iv} (h : RC b f I) {s t : Nat} (hs : s < f 0) (ht : t < f 0) : I (b + 1) (s * 8 + 1 + t) = nI (gW f s t) := h.2.2.2.2.1 s t hs ht
theorem RC.w {b : Nat} {f : Vw} {I : Iv} (h : RC b f I) {s g : Nat} (hs : s < f 0) (hg : g < 3) : I (b + 1) (s * 8 + 5 + g) = nI (sW f s g) := h.2.2.2.2.2.1 s g hs hg
theorem RC.n {b : Nat} {f : Vw} {I : Iv} (h : RC b f I) {k : Nat} (hk : k < f 1) : I (b + 2) k = nI (nP f k) := h.2.2.2.2.2.2.1 k hk
theorem RC.s {b : Nat} {f : Vw} {I : Iv} (h : RC b f I) {k p : Nat} (hk : k < f 1) (hp : p < nP f k) : I (b + 3) (k * 7 + p) = nI (sG f k p) := h.2.2.2.2.2.2.2 k p hk hp
theorem RR.st {h : Nat → Int32} {f : Vw} (c : RR h f) : h 0 = nI (f 0) := c.1
theorem RR.sm {h : Nat → Int32} {f : Vw} (c : RR h f) : h 1 = nI (f 1) := c.2.1
theorem RR.bd {h : Nat → Int32} {f : Vw} (c : RR h f) : h 2 = nI (f 2) := c.2.2.1
theorem RR.b {h : Nat → Int32} {f : Vw} (c : RR h f) {s : Nat} (hs : s < f 0) : h (3 + s) = nI (bW f s) := c.2.2.2.1 s hs
theorem RR.g {h : Nat → Int32} {f : Vw} (c : RR h f) {s t : Nat} (hs : s < f 0) (ht : t < f 0) : h (7 + 4 * s + t) = nI (gW f s t) := c.2.2.2.2.1 s t hs ht
theorem RR.w {h : Nat → Int32} {f : Vw} (c : RR h f) {s g : Nat} (hs : s < f 0) (hg : g < 3) : h (23 + 3 * s + g) = nI (sW f s g) := c.2.2.2.2.2.1 s g hs hg
theorem RR.n {h : Nat → Int32} {f : Vw} (c : RR h f) {k : Nat} (hk : k < f 1) : h (35 + 8 * k) = nI (nP f k) := c.2.2.2.2.2.2.1 k hk
theorem RR.s {h : Nat → Int32} {f : Vw} (c : RR h f) {k p : Nat} (hk : k < f 1) (hp : p < nP f k) : h (35 + 8 * k + 1 + p) = nI (sG f k p) := c.2.2.2.2.2.2.2 k p hk hp
theorem Wf.n1 {f : Vw} (h : Wf f) : 1 ≤ f 0 := h.1.1
theorem Wf.n4 {f : Vw} (h : Wf f) : f 0 ≤ 4 := h.1.2
theorem Wf.m6 {f : Vw} (h : Wf f) : f 1 ≤ 6 := h.2.1
theorem Wf.b {f : Vw} (h : Wf f) {s : Nat} (hs : s < f 0) : bW f s ≤ 6 := h.2.2.2.1 s hs
theorem Wf.g {f : Vw} (h : Wf f) {s t : Nat} (hs : s < f 0) (ht : t < f 0) : gW f s t ≤ 6 := h.2.2.2.2.1 s t hs ht
theorem Wf.w {f : Vw} (h : Wf f) {s g : Nat} (hs : s < f 0) (hg : g < 3) : sW f s g ≤ 6 := h.2.2.2.2.2.1 s g hs hg
theorem Wf.p {f : Vw} (h : Wf f) {k : Nat} (hk : k < f 1) : 1 ≤ nP f k ∧ nP f k ≤ 7 := h.2.2.2.2.2.2.1 k hk
theorem Wf.s {f : Vw} (h : Wf f) {k p : Nat} (hk : k < f 1) (hp : p < nP f k) : sG f k p ≤ 2 := h.2.2.2.2.2.2.2 k p hk hp
theorem RC.same {b : Nat} {f : Vw} {I I' : Iv} (h : RC b f I) (e : ∀ a, b ≤ a → a ≤ b + 3 → I' a = I a) : RC b f I' := by
  unfold RC
  rw [e b (by omega) (by omega), e (b + 1) (by omega) (by omega), e (b + 2) (by omega) (by omega), e (b + 3) (by omega) (by omega)]
  exact h
theorem up2_row {α : Type} {f g : Nat → Nat → α} {i k : Nat} {a : α} (e : g = up2 f i k a) {j : Nat} (h : j ≠ i) : g j = f j := by
  rw [e]
  exact up2_ne h
theorem up2_at {α : Type} {f g : Nat → Nat → α} {i k : Nat} {a : α} (e : g = up2 f i k a) : g i k = a := by
  rw [e]
  simp [up2]
theorem up2_off {α : Type} {f g : Nat → Nat → α} {i k : Nat} {a : α} (e : g = up2 f i k a) {j q : Nat} (h : ¬ (j = i ∧ q = k)) : g j q = f j q := by
  rw [e]
  simp [up2, h]
/-- whether z is one of 0 .. n - 1 -/
def inb (z : Int32) (n : Nat) : Nat := if z < 0 ∨ nI n ≤ z then 0 else 1
theorem inb_0 {z : Int32} {n : Nat} (h : inb z n = 0) : z < 0 ∨ nI n ≤ z := by
  by_cases c : z < 0 ∨ nI n ≤ z
  · exact c
  · rw [inb, if_neg c] at h
    cases h
theorem inb_1 {z : Int32} {n : Nat} (hn : n < 2147483648) (h : inb z n ≠ 0) : ∃ j, j < n ∧ z = nI j := by
  by_cases c : z < 0 ∨ nI n ≤ z
  · rw [inb, if_pos c] at h
    exact absurd rfl h
  · rcases pk_ix z hn with q | q | q
    · exact absurd (Or.inl q) c
    · exact absurd (Or.inr q) c
    · exact q
theorem inb_lt (z : Int32) (n : Nat) : inb z n < 2 := by
  unfold inb
  split <;> omega
theorem inb_in {j n : Nat} (h : j < n) (hn : n < 2147483648) : inb (nI j) n = 1 := by
  have h1 : ¬ (nI j < 0 ∨ nI n ≤ nI j) := by
    rintro (q | q)
    · exact nI_pos (Nat.lt_trans h hn) q
    · exact nI_ge h hn q
  rw [inb, if_neg h1]
theorem inb_out {z : Int32} {n : Nat} (h : z < 0 ∨ nI n ≤ z) : inb z n = 0 := if_pos h
def smN (n : Nat) (g : Nat → Nat) : Nat := match n with
  | 0 => 0
  | n + 1 => smN n g + g n
theorem smN_s (n : Nat) (g : Nat → Nat) : smN (n + 1) g = smN n g + g n := rfl
theorem smN_congr {g h : Nat → Nat} : ∀ {n : Nat}, (∀ k, k < n → g k = h k) → smN n g = smN n h
  | 0, _ => rfl
  | n + 1, e => by rw [smN_s, smN_s, smN_congr (fun k hk => e k (by omega)), e n (by omega)]
theorem smN_le {g : Nat → Nat} {c : Nat} : ∀ {n : Nat}, (∀ k, k < n → g k ≤ c) → smN n g ≤ n * c
  | 0, _ => by simp [smN]
  | n + 1, e => by
    have h1 := smN_le (g := g) (c := c) (n := n) (fun k hk => e k (by omega))
    have h2 := e n (by omega)
    rw [smN_s, Nat.succ_mul]
    omega
/-- a loop that counts up: from each place on, what holds at the end -/
theorem lpU {W : Nat → Prop} {n : Nat} (he : W n) (hs : ∀ i, i < n → W (i + 1) → W i) : ∀ i, i ≤ n → W i := by
  intro i hi
  obtain ⟨k, rfl⟩ : ∃ k, n = i + k := ⟨n - i, by omega⟩
  clear hi
  induction k generalizing i with
  | zero => exact he
  | succ k ih =>
    refine hs i (by omega) (ih (i + 1) ?_ ?_)
    · rw [show i + 1 + k = i + (k + 1) by omega]
      exact he
    · intro j hj
      exact hs j (by omega)
/-- a loop that counts down -/
theorem lpD {W : Nat → Prop} (h0 : W 0) (hs : ∀ i, W i → W (i + 1)) : ∀ i, W i := by
  intro i
  induction i with
  | zero => exact h0
  | succ i ih => exact hs i ih
def lsub : List (Option Value) → List (Option Value) → Prop
  | [], _ => True
  | none :: r, _ :: r' => lsub r r'
  | some v :: r, w :: r' => w = some v ∧ lsub r r'
  | _ :: _, [] => False
theorem lsub_get : ∀ (a b : List (Option Value)), lsub a b → ∀ (i : Nat) (v : Value), a[i]? = some (some v) → b[i]? = some (some v)
  | [], _, _, i, v, h => by simp at h
  | none :: r, [], h0, i, v, h => h0.elim
  | some w :: r, [], h0, i, v, h => h0.elim
  | none :: r, w :: r', h0, i, v, h => by
    cases i with
    | zero => simp at h
    | succ i => exact lsub_get r r' h0 i v h
  | some u :: r, w :: r', h0, i, v, h => by
    cases i with
    | zero =>
      simp at h
      subst h
      simpa using h0.1
    | succ i => exact lsub_get r r' h0.2 i v h
/-- fewer locals are known -/
theorem v_drop {x : Cx} {M : MI} {Q : Qt} {pc : Nat} {ls : List (Option Value)} {st : List Value} {I : Iv} {L : Lv} {P : Pv} (ls' : List (Option Value)) (h : lsub ls' ls) (kk : V x M Q pc ls' st I L P) : V x M Q pc ls st I L P := by
  intro p e s m args below meth c hc hk H locs lsA hP hS hl
  refine kk p e s m args below meth c hc hk H locs lsA hP hS ⟨hl.1, hl.2.1, fun q hq => hl.2.2 q ?_⟩
  rw [lvA_mem] at hq ⊢
  exact ⟨hq.1, lsub_get ls' ls h _ _ hq.2⟩
theorem qL {Q : Qt} {I : Iv} {L : Lv} {P : Pv} {a b : Nat} (h : Q (some (.long (lN a))) I L P) (e : b = a) : Q (some (.long (lN b))) I L P := e ▸ h
theorem qI {Q : Qt} {I : Iv} {L : Lv} {P : Pv} {a b : Nat} (h : Q (some (.int (nI a))) I L P) (e : b = a) : Q (some (.int (nI b))) I L P := e ▸ h
theorem nI_sub1 (a : Nat) : nI a - nI 1 = nI a + Int32.ofInt (-1) := by
  rw [Int32.sub_eq_add_neg]
  rfl
theorem nI_m1 (a : Nat) : nI (a + 1) + Int32.ofInt (-1) = nI a := pk_m1 a
end
section
set_option maxHeartbeats 4000000 in
theorem sp_X3_hasState {x : Cx} {Q : Qt} {I : Iv} {L : Lv} {P : Pv} {f : Vw} (c : RC 1 f I) (w : Wf f) {z : Int32} (hQ : Q (some (.int (nI (inb z (f 0))))) I L P) : SP x M_X3_hasState [rfv x 1, .int (z)] I L P Q := by
  have := w.n4
  have := w.m6
  refine SP.intro [some (rfv x 1), some (.int (z))] pn_X3_hasState (Nat.le_of_ble_eq_true rfl) rfl ?_
  refine v_iload_n 1 rfl dX3_hasState_0 rfl ?_
  refine v_if_lt 16 4 dX3_hasState_1 (by decide) rfl (fun h1 => ?_) (fun h1 => ?_)
  · skip
    refine v_iconst 17 (nI (0)) (by decide) dX3_hasState_16 rfl ?_
    refine v_zret rfl dX3_hasState_17 (by decide) ?_
    rw [show (nI (0)) = nI (inb z (f 0)) from by first | rw [inb_out (Or.inl ‹_›)] | rw [inb_out (Or.inr ‹_›)] | (rw [inb, if_neg (by rintro (q | q) <;> contradiction)])]
    exact hQ
  · skip
    refine v_iload_n 5 rfl dX3_hasState_4 rfl ?_
    refine v_aload_n 6 rfl dX3_hasState_5 rfl ?_
    refine v_get 9 (k := 1) 3 (.int (nI (f 0))) (by decide) rfl (by decide) (by decide) dX3_hasState_6 rfl fl_X3_15 (congrArg Value.int c.st) ?_
    refine v_icmp_ge 16 12 dX3_hasState_9 (by decide) rfl (fun h9 => ?_) (fun h9 => ?_)
    · skip
      refine v_iconst 17 (nI (0)) (by decide) dX3_hasState_16 rfl ?_
      refine v_zret rfl dX3_hasState_17 (by decide) ?_
      rw [show (nI (0)) = nI (inb z (f 0)) from by first | rw [inb_out (Or.inl ‹_›)] | rw [inb_out (Or.inr ‹_›)] | (rw [inb, if_neg (by rintro (q | q) <;> contradiction)])]
      exact hQ
    · skip
      refine v_iconst 13 (nI (1)) (by decide) dX3_hasState_12 rfl ?_
      refine v_goto 17 dX3_hasState_13 (by decide) ?_
      refine v_zret rfl dX3_hasState_17 (by decide) ?_
      rw [show (nI (1)) = nI (inb z (f 0)) from by first | rw [inb_out (Or.inl ‹_›)] | rw [inb_out (Or.inr ‹_›)] | (rw [inb, if_neg (by rintro (q | q) <;> contradiction)])]
      exact hQ
set_option maxHeartbeats 4000000 in
theorem sp_X3_hasSample {x : Cx} {Q : Qt} {I : Iv} {L : Lv} {P : Pv} {f : Vw} (c : RC 1 f I) (w : Wf f) {z : Int32} (hQ : Q (some (.int (nI (inb z (f 1))))) I L P) : SP x M_X3_hasSample [rfv x 1, .int (z)] I L P Q := by
  have := w.n4
  have := w.m6
  refine SP.intro [some (rfv x 1), some (.int (z))] pn_X3_hasSample (Nat.le_of_ble_eq_true rfl) rfl ?_
  refine v_iload_n 1 rfl dX3_hasSample_0 rfl ?_
  refine v_if_lt 16 4 dX3_hasSample_1 (by decide) rfl (fun h1 => ?_) (fun h1 => ?_)
  · skip
    refine v_iconst 17 (nI (0)) (by decide) dX3_hasSample_16 rfl ?_
    refine v_zret rfl dX3_hasSample_17 (by decide) ?_
    rw [show (nI (0)) = nI (inb z (f 1)) from by first | rw [inb_out (Or.inl ‹_›)] | rw [inb_out (Or.inr ‹_›)] | (rw [inb, if_neg (by rintro (q | q) <;> contradiction)])]
    exact hQ
  · skip
    refine v_iload_n 5 rfl dX3_hasSample_4 rfl ?_
    refine v_aload_n 6 rfl dX3_hasSample_5 rfl ?_
    refine v_get 9 (k := 5) 3 (.int (nI (f 1))) (by decide) rfl (by decide) (by decide) dX3_hasSample_6 rfl fl_X3_34 (congrArg Value.int c.sm) ?_
    refine v_icmp_ge 16 12 dX3_hasSample_9 (by decide) rfl (fun h9 => ?_) (fun h9 => ?_)
    · skip
      refine v_iconst 17 (nI (0)) (by decide) dX3_hasSample_16 rfl ?_
      refine v_zret rfl dX3_hasSample_17 (by decide) ?_
      rw [show (nI (0)) = nI (inb z (f 1)) from by first | rw [inb_out (Or.inl ‹_›)] | rw [inb_out (Or.inr ‹_›)] | (rw [inb, if_neg (by rintro (q | q) <;> contradiction)])]
      exact hQ
    · skip
      refine v_iconst 13 (nI (1)) (by decide) dX3_hasSample_12 rfl ?_
      refine v_goto 17 dX3_hasSample_13 (by decide) ?_
      refine v_zret rfl dX3_hasSample_17 (by decide) ?_
      rw [show (nI (1)) = nI (inb z (f 1)) from by first | rw [inb_out (Or.inl ‹_›)] | rw [inb_out (Or.inr ‹_›)] | (rw [inb, if_neg (by rintro (q | q) <;> contradiction)])]
      exact hQ
set_option maxHeartbeats 4000000 in
theorem sp_X3_begin {x : Cx} {Q : Qt} {I : Iv} {L : Lv} {P : Pv} {f : Vw} (c : RC 1 f I) (w : Wf f) {s : Nat} (hs : s < f 0) (hQ : Q (some (.int (nI (bW f s)))) I L P) : SP x M_X3_begin [rfv x 1, .int (nI (s))] I L P Q := by
  have := w.n4
  have := w.m6
  refine SP.intro [some (rfv x 1), some (.int (nI (s)))] pn_X3_begin (Nat.le_of_ble_eq_true rfl) rfl ?_
  refine v_aload_n 1 rfl dX3_begin_0 rfl ?_
  refine v_get 4 (k := 0) 3 (rfv x 2) (by decide) rfl (by decide) (by decide) dX3_begin_1 rfl fl_X3_11 rfl ?_
  refine v_iload_n 5 rfl dX3_begin_4 rfl ?_
  refine v_bipush 7 (nI (8)) (by decide) dX3_begin_5 rfl ?_
  refine v_imul 8 (nI (s * 8)) dX3_begin_7 rfl (pk_mul _ _) ?_
  refine v_iald 9 (k := s * 8) (nI (bW f s)) (by decide) rfl (by decide) dX3_begin_8 rfl rfl (by omega) (c.b hs) ?_
  refine v_iret rfl dX3_begin_9 ?_
  exact hQ
set_option maxHeartbeats 4000000 in
theorem sp_X3_go {x : Cx} {Q : Qt} {I : Iv} {L : Lv} {P : Pv} {f : Vw} (c : RC 1 f I) (w : Wf f) {s t : Nat} (hs : s < f 0) (ht : t < f 0) (hQ : Q (some (.int (nI (gW f s t)))) I L P) : SP x M_X3_go [rfv x 1, .int (nI (s)), .int (nI (t))] I L P Q := by
  have := w.n4
  have := w.m6
  refine SP.intro [some (rfv x 1), some (.int (nI (s))), some (.int (nI (t)))] pn_X3_go (Nat.le_of_ble_eq_true rfl) rfl ?_
  refine v_aload_n 1 rfl dX3_go_0 rfl ?_
  refine v_get 4 (k := 0) 3 (rfv x 2) (by decide) rfl (by decide) (by decide) dX3_go_1 rfl fl_X3_11 rfl ?_
  refine v_iload_n 5 rfl dX3_go_4 rfl ?_
  refine v_bipush 7 (nI (8)) (by decide) dX3_go_5 rfl ?_
  refine v_imul 8 (nI (s * 8)) dX3_go_7 rfl (pk_mul _ _) ?_
  refine v_iconst 9 (nI (1)) (by decide) dX3_go_8 rfl ?_
  refine v_iadd 10 (nI ((s * 8) + 1)) dX3_go_9 rfl (nI_add _ _) ?_
  refine v_iload_n 11 rfl dX3_go_10 rfl ?_
  refine v_iadd 12 (nI (((s * 8) + 1) + t)) dX3_go_11 rfl (nI_add _ _) ?_
  refine v_iald 13 (k := ((s * 8) + 1) + t) (nI (gW f s t)) (by decide) rfl (by decide) dX3_go_12 rfl rfl (by omega) (c.g hs ht) ?_
  refine v_iret rfl dX3_go_13 ?_
  exact hQ
set_option maxHeartbeats 4000000 in
theorem sp_X3_show {x : Cx} {Q : Qt} {I : Iv} {L : Lv} {P : Pv} {f : Vw} (c : RC 1 f I) (w : Wf f) {s g : Nat} (hs : s < f 0) (hg : g < 3) (hQ : Q (some (.int (nI (sW f s g)))) I L P) : SP x M_X3_show [rfv x 1, .int (nI (s)), .int (nI (g))] I L P Q := by
  have := w.n4
  have := w.m6
  refine SP.intro [some (rfv x 1), some (.int (nI (s))), some (.int (nI (g)))] pn_X3_show (Nat.le_of_ble_eq_true rfl) rfl ?_
  refine v_aload_n 1 rfl dX3_show_0 rfl ?_
  refine v_get 4 (k := 0) 3 (rfv x 2) (by decide) rfl (by decide) (by decide) dX3_show_1 rfl fl_X3_11 rfl ?_
  refine v_iload_n 5 rfl dX3_show_4 rfl ?_
  refine v_bipush 7 (nI (8)) (by decide) dX3_show_5 rfl ?_
  refine v_imul 8 (nI (s * 8)) dX3_show_7 rfl (pk_mul _ _) ?_
  refine v_iconst 9 (nI (5)) (by decide) dX3_show_8 rfl ?_
  refine v_iadd 10 (nI ((s * 8) + 5)) dX3_show_9 rfl (nI_add _ _) ?_
  refine v_iload_n 11 rfl dX3_show_10 rfl ?_
  refine v_iadd 12 (nI (((s * 8) + 5) + g)) dX3_show_11 rfl (nI_add _ _) ?_
  refine v_iald 13 (k := ((s * 8) + 5) + g) (nI (sW f s g)) (by decide) rfl (by decide) dX3_show_12 rfl rfl (by omega) (c.w hs hg) ?_
  refine v_iret rfl dX3_show_13 ?_
  exact hQ
set_option maxHeartbeats 4000000 in
theorem sp_X3_signAt {x : Cx} {Q : Qt} {I : Iv} {L : Lv} {P : Pv} {f : Vw} (c : RC 1 f I) (w : Wf f) {k p : Nat} (hk : k < f 1) (hp : p < nP f k) (hQ : Q (some (.int (nI (sG f k p)))) I L P) : SP x M_X3_signAt [rfv x 1, .int (nI (k)), .int (nI (p))] I L P Q := by
  have := w.n4
  have := w.m6
  have := w.p hk
  refine SP.intro [some (rfv x 1), some (.int (nI (k))), some (.int (nI (p)))] pn_X3_signAt (Nat.le_of_ble_eq_true rfl) rfl ?_
  refine v_aload_n 1 rfl dX3_signAt_0 rfl ?_
  refine v_get 4 (k := 4) 3 (rfv x 4) (by decide) rfl (by decide) (by decide) dX3_signAt_1 rfl fl_X3_25 rfl ?_
  refine v_iload_n 5 rfl dX3_signAt_4 rfl ?_
  refine v_bipush 7 (nI (7)) (by decide) dX3_signAt_5 rfl ?_
  refine v_imul 8 (nI (k * 7)) dX3_signAt_7 rfl (pk_mul _ _) ?_
  refine v_iload_n 9 rfl dX3_signAt_8 rfl ?_
  refine v_iadd 10 (nI ((k * 7) + p)) dX3_signAt_9 rfl (nI_add _ _) ?_
  refine v_iald 11 (k := (k * 7) + p) (nI (sG f k p)) (by decide) rfl (by decide) dX3_signAt_10 rfl rfl (by omega) (c.s hk hp) ?_
  refine v_iret rfl dX3_signAt_11 ?_
  exact hQ
set_option maxHeartbeats 4000000 in
theorem sp_X3_showAt {x : Cx} {Q : Qt} {I : Iv} {L : Lv} {P : Pv} {f : Vw} (c : RC 1 f I) (w : Wf f) {s k p : Nat} (hs : s < f 0) (hk : k < f 1) (hp : p < nP f k) (hQ : Q (some (.int (nI (sW f s (sG f k p))))) I L P) : SP x M_X3_showAt [rfv x 1, .int (nI (s)), .int (nI (k)), .int (nI (p))] I L P Q := by
  have := w.n4
  have := w.m6
  have := w.p hk
  have := w.s hk hp
  refine SP.intro [some (rfv x 1), some (.int (nI (s))), some (.int (nI (k))), some (.int (nI (p)))] pn_X3_showAt (Nat.le_of_ble_eq_true rfl) rfl ?_
  refine v_aload_n 1 rfl dX3_showAt_0 rfl ?_
  refine v_iload_n 2 rfl dX3_showAt_1 rfl ?_
  refine v_aload_n 3 rfl dX3_showAt_2 rfl ?_
  refine v_iload_n 4 rfl dX3_showAt_3 rfl ?_
  refine v_iload_n 5 rfl dX3_showAt_4 rfl ?_
  refine v_invV 8 M_X3_signAt [.int (nI (k)), .int (nI (p))] (by decide) rfl (by decide) rfl dX3_showAt_5 rfl ml_X3_52 im_X3_signAt se_X3_signAt mc_X3_signAt (by decide) (Nat.le_of_ble_eq_true rfl) (sp_X3_signAt c w (by omega) (by omega) ?_)
  refine v_invV 11 M_X3_show [.int (nI (s)), .int (nI (sG f k p))] (by decide) rfl (by decide) rfl dX3_showAt_8 rfl ml_X3_56 im_X3_show se_X3_show mc_X3_show (by decide) (Nat.le_of_ble_eq_true rfl) (sp_X3_show c w (by omega) (by omega) ?_)
  refine v_iret rfl dX3_showAt_11 ?_
  exact hQ
end
section
/-! runs in numbers: weights up to a place, from a place on, the greatest, how many -/
def upW (f : Vw) (k : Nat) : Nat → Nat → Nat
  | 0, s => bW f s * sW f s (sG f k 0)
  | p + 1, s => smN (f 0) (fun t => upW f k p t * gW f t s) * sW f s (sG f k (p + 1))
def stW (f : Vw) (k p s t : Nat) : Nat := gW f s t * sW f t (sG f k (p + 1))
def bhR (f : Vw) (k : Nat) : Nat → Nat → Nat
  | 0, _ => 1
  | j + 1, s => smN (f 0) (fun t => stW f k (nP f k - 2 - j) s t * bhR f k j t)
def bhW (f : Vw) (k p s : Nat) : Nat := bhR f k (nP f k - 1 - p) s
def mxN (n : Nat) (g : Nat → Nat) : Nat := match n with
  | 0 => 0
  | n + 1 => if mxN n g < g n then g n else mxN n g
def grR (f : Vw) (k : Nat) : Nat → Nat → Nat
  | 0, _ => 1
  | j + 1, s => mxN (f 0) (fun t => stW f k (nP f k - 2 - j) s t * grR f k j t)
def grW (f : Vw) (k p s : Nat) : Nat := grR f k (nP f k - 1 - p) s
def mnR (f : Vw) (k : Nat) : Nat → Nat → Nat
  | 0, _ => 1
  | j + 1, s => smN (f 0) (fun t => if 0 < stW f k (nP f k - 2 - j) s t then mnR f k j t else 0)
def mnW (f : Vw) (k p s : Nat) : Nat := mnR f k (nP f k - 1 - p) s
theorem bhW_l {f : Vw} {k p s : Nat} (h : p = nP f k - 1) : bhW f k p s = 1 := by
  unfold bhW
  rw [show nP f k - 1 - p = 0 by omega]
  rfl
theorem bhW_s {f : Vw} {k p s : Nat} (h : p + 1 < nP f k) : bhW f k p s = smN (f 0) (fun t => stW f k p s t * bhW f k (p + 1) t) := by
  unfold bhW
  rw [show nP f k - 1 - p = (nP f k - 1 - (p + 1)) + 1 by omega, bhR, show nP f k - 2 - (nP f k - 1 - (p + 1)) = p by omega]
theorem grW_l {f : Vw} {k p s : Nat} (h : p = nP f k - 1) : grW f k p s = 1 := by
  unfold grW
  rw [show nP f k - 1 - p = 0 by omega]
  rfl
theorem grW_s {f : Vw} {k p s : Nat} (h : p + 1 < nP f k) : grW f k p s = mxN (f 0) (fun t => stW f k p s t * grW f k (p + 1) t) := by
  unfold grW
  rw [show nP f k - 1 - p = (nP f k - 1 - (p + 1)) + 1 by omega, grR, show nP f k - 2 - (nP f k - 1 - (p + 1)) = p by omega]
theorem mnW_l {f : Vw} {k p s : Nat} (h : p = nP f k - 1) : mnW f k p s = 1 := by
  unfold mnW
  rw [show nP f k - 1 - p = 0 by omega]
  rfl
theorem mnW_s {f : Vw} {k p s : Nat} (h : p + 1 < nP f k) : mnW f k p s = smN (f 0) (fun t => if 0 < stW f k p s t then mnW f k (p + 1) t else 0) := by
  unfold mnW
  rw [show nP f k - 1 - p = (nP f k - 1 - (p + 1)) + 1 by omega, mnR, show nP f k - 2 - (nP f k - 1 - (p + 1)) = p by omega]
def wtW (f : Vw) (k p s : Nat) : Nat := upW f k p s * bhW f k p s
def totW (f : Vw) (k : Nat) : Nat := smN (f 0) (fun s => wtW f k 0 s)
def goW (f : Vw) (k s t : Nat) : Nat := smN (nP f k - 1) (fun p => upW f k p s * stW f k p s t * bhW f k (p + 1) t)
def shW (f : Vw) (k s g : Nat) : Nat := smN (nP f k) (fun p => if sG f k p = g then wtW f k p s else 0)
def nxW (f : Vw) (k g : Nat) : Nat := smN (f 0) (fun s => smN (f 0) (fun t => upW f k (nP f k - 1) s * gW f s t * sW f t g))
/-- the lowest place among 0 .. n at which g is greatest -/
def amN (g : Nat → Nat) : Nat → Nat
  | 0 => 0
  | n + 1 => if g (amN g n) < g (n + 1) then n + 1 else amN g n
def lkW (f : Vw) (k p : Nat) : Nat := amN (wtW f k p) (f 0 - 1)
/-- what Sums holds behind read(k) -/
def SM (f : Vw) (k : Nat) (I : Iv) (L : Lv) : Prop :=
  I 29 1 = nI k ∧ I 29 2 = nI (nP f k) ∧ (∀ p s, p < nP f k → s < f 0 → L 30 (p * 4 + s) = lN (upW f k p s)) ∧ (∀ p s, p < nP f k → s < f 0 → L 31 (p * 4 + s) = lN (bhW f k p s)) ∧ L 29 5 = lN (totW f k)
def shN (a t : Nat) : Nat := 1000 * a / t
theorem dig_q {a t : Nat} (ht : 0 < t) : a / t * 10 + a % t * 10 / t = a * 10 / t := by
  have h := Nat.div_add_mod a t
  have e : a * 10 = t * (a / t * 10) + a % t * 10 := by
    calc a * 10 = (t * (a / t) + a % t) * 10 := by rw [h]
      _ = t * (a / t) * 10 + a % t * 10 := Nat.add_mul _ _ _
      _ = t * (a / t * 10) + a % t * 10 := by rw [Nat.mul_assoc]
  rw [e, Nat.mul_add_div ht]
theorem dig_r {a t : Nat} : a % t * 10 % t = a * 10 % t := by
  have h := Nat.div_add_mod a t
  have e : a * 10 = t * (a / t * 10) + a % t * 10 := by
    calc a * 10 = (t * (a / t) + a % t) * 10 := by rw [h]
      _ = t * (a / t) * 10 + a % t * 10 := Nat.add_mul _ _ _
      _ = t * (a / t * 10) + a % t * 10 := by rw [Nat.mul_assoc]
  rw [e, Nat.mul_add_mod]
theorem dig_3 {a t : Nat} (ht : 0 < t) : ((a / t * 10 + a % t * 10 / t) * 10 + a % t * 10 % t * 10 / t) * 10 + a % t * 10 % t * 10 % t * 10 / t = shN a t := by
  rw [dig_q ht, dig_r, dig_q ht, dig_r, dig_q ht, shN, show a * 10 * 10 * 10 = 1000 * a by omega]
theorem dig_3' {a t : Nat} (ht : 0 < t) : 10 * (10 * (10 * (a / t) + a % t * 10 / t) + a % t * 10 % t * 10 / t) + a % t * 10 % t * 10 % t * 10 / t = shN a t := by
  rw [← dig_3 ht, Nat.mul_comm 10 (a / t), Nat.mul_comm 10, Nat.mul_comm 10]
theorem lN_ne0 {t : Nat} (ht : 0 < t) (hb : t < 2 ^ 63) : ¬ lN t = 0 := fun h => by
  have : t = 0 := (pk_lEQ hb (by decide)).mp (h.trans (show (0 : Int64) = lN 0 from rfl))
  omega
theorem smN_mul (c : Nat) (g : Nat → Nat) : ∀ n, c * smN n g = smN n (fun t => c * g t)
  | 0 => rfl
  | n + 1 => by rw [smN_s, Nat.mul_add, smN_mul c g n, smN_s]
theorem smN_le1 {g : Nat → Nat} {n i : Nat} (h : i < n) : g i ≤ smN n g := by
  induction n with
  | zero => omega
  | succ n ih =>
    rw [smN_s]
    by_cases q : i = n
    · subst q
      omega
    · have := ih (by omega)
      omega
theorem smN_pos {g : Nat → Nat} : ∀ {n : Nat}, 0 < smN n g → ∃ i, i < n ∧ 0 < g i
  | 0, h => by simp [smN] at h
  | n + 1, h => by
    rw [smN_s] at h
    by_cases q : 0 < g n
    · exact ⟨n, by omega, q⟩
    · obtain ⟨i, h1, h2⟩ := smN_pos (g := g) (n := n) (by omega)
      exact ⟨i, by omega, h2⟩
theorem upW_le {f : Vw} {k : Nat} (w : Wf f) (hk : k < f 1) : ∀ p, p < nP f k → ∀ s, s < f 0 → upW f k p s ≤ 36 * 144 ^ p
  | 0, hp, s, hs => by
    have h := Nat.mul_le_mul (w.b hs) (w.w hs (g := sG f k 0) (by have := w.s hk hp; omega))
    simpa [upW] using h
  | p + 1, hp, s, hs => by
    have h1 : ∀ t, t < f 0 → upW f k p t * gW f t s ≤ 36 * 144 ^ p * 6 := fun t ht => Nat.mul_le_mul (upW_le w hk p (by omega) t ht) (w.g ht hs)
    have h2 := smN_le (g := fun t => upW f k p t * gW f t s) h1
    have h3 : f 0 * (36 * 144 ^ p * 6) ≤ 4 * (36 * 144 ^ p * 6) := Nat.mul_le_mul_right _ w.n4
    have h4 := Nat.mul_le_mul (Nat.le_trans h2 h3) (w.w hs (g := sG f k (p + 1)) (by have := w.s hk hp; omega))
    rw [upW, Nat.pow_succ]
    omega
theorem stW_le {f : Vw} {k p s t : Nat} (w : Wf f) (hk : k < f 1) (hp : p + 1 < nP f k) (hs : s < f 0) (ht : t < f 0) : stW f k p s t ≤ 36 :=
  Nat.mul_le_mul (w.g hs ht) (w.w ht (g := sG f k (p + 1)) (by have := w.s hk hp; omega))
theorem bhR_le {f : Vw} {k : Nat} (w : Wf f) (hk : k < f 1) : ∀ j, j < nP f k → ∀ s, s < f 0 → bhR f k j s ≤ 144 ^ j
  | 0, _, s, _ => by simp [bhR]
  | j + 1, hj, s, hs => by
    have h1 : ∀ t, t < f 0 → stW f k (nP f k - 2 - j) s t * bhR f k j t ≤ 36 * 144 ^ j := fun t ht => Nat.mul_le_mul (stW_le w hk (by omega) hs ht) (bhR_le w hk j (by omega) t ht)
    have h2 := smN_le (g := fun t => stW f k (nP f k - 2 - j) s t * bhR f k j t) h1
    have h3 : f 0 * (36 * 144 ^ j) ≤ 4 * (36 * 144 ^ j) := Nat.mul_le_mul_right _ w.n4
    rw [bhR, Nat.pow_succ]
    omega
theorem wtW_le {f : Vw} {k p s : Nat} (w : Wf f) (hk : k < f 1) (hp : p < nP f k) (hs : s < f 0) : wtW f k p s ≤ 320979616137216 := by
  have h := Nat.mul_le_mul (upW_le w hk p hp s hs) (bhR_le w hk (nP f k - 1 - p) (by omega) s hs)
  have e : 36 * 144 ^ p * 144 ^ (nP f k - 1 - p) = 36 * 144 ^ (nP f k - 1) := by
    rw [Nat.mul_assoc, ← Nat.pow_add, show p + (nP f k - 1 - p) = nP f k - 1 by omega]
  have h2 : 144 ^ (nP f k - 1) ≤ 144 ^ 6 := Nat.pow_le_pow_right (by decide) (by have := w.p hk; omega)
  have h3 : (144 : Nat) ^ 6 = 8916100448256 := by decide
  unfold wtW bhW
  rw [e] at h
  omega
theorem upL_le {f : Vw} {k p s : Nat} (w : Wf f) (hk : k < f 1) (hp : p < nP f k) (hs : s < f 0) : upW f k p s ≤ 320979616137216 := by
  have h := upW_le w hk p hp s hs
  have h2 : 144 ^ p ≤ 144 ^ 6 := Nat.pow_le_pow_right (by decide) (by have := w.p hk; omega)
  have h3 : (144 : Nat) ^ 6 = 8916100448256 := by decide
  omega
theorem totW_le {f : Vw} {k : Nat} (w : Wf f) (hk : k < f 1) : totW f k ≤ 1283918464548864 := by
  have h := smN_le (g := fun s => wtW f k 0 s) (n := f 0) (c := 320979616137216) (fun s hs => wtW_le w hk (by have := w.p hk; omega) hs)
  have := w.n4
  unfold totW
  omega
theorem amN_le (g : Nat → Nat) : ∀ n, amN g n ≤ n
  | 0 => Nat.le_refl 0
  | n + 1 => by
    have := amN_le g n
    rw [amN]
    split <;> omega
theorem lkW_lt {f : Vw} {k p : Nat} (w : Wf f) : lkW f k p < f 0 := by
  have := amN_le (wtW f k p) (f 0 - 1)
  have := w.n1
  unfold lkW
  omega
/-- doubtful places among the first n, as bits -/
def dbW (f : Vw) (k n : Nat) : Nat := smN n (fun p => if shN (wtW f k p (lkW f k p)) (totW f k) < f 2 then 2 ^ p else 0)
theorem dbW_lt (f : Vw) (k : Nat) : ∀ n, dbW f k n < 2 ^ n
  | 0 => by simp [dbW, smN]
  | n + 1 => by
    have h := dbW_lt f k n
    have e : dbW f k (n + 1) = dbW f k n + (if shN (wtW f k n (lkW f k n)) (totW f k) < f 2 then 2 ^ n else 0) := rfl
    rw [e, Nat.pow_succ]
    split <;> omega
theorem bit_shl {p : Nat} (hp : p < 31) : nI 1 <<< (nI p &&& 31) = nI (2 ^ p) := by
  have h : ∀ p, p < 31 → nI 1 <<< (nI p &&& 31) = nI (2 ^ p) := by decide +kernel
  exact h p hp
theorem bit_or {a p : Nat} (ha : a < 2 ^ p) (hp : p < 31) : nI a ||| nI (2 ^ p) = nI (a + 2 ^ p) := by
  have h0 : 2 ^ p ≤ 2 ^ 30 := Nat.pow_le_pow_right (by decide) (by omega)
  have h1 : (2 : Nat) ^ 30 = 1073741824 := by decide
  have e : a ||| 2 ^ p = a + 2 ^ p := by
    have := Nat.two_pow_add_eq_or_of_lt ha 1
    rw [Nat.mul_one] at this
    rw [Nat.or_comm, ← this, Nat.add_comm]
  apply Int32.toBitVec_inj.mp
  rw [Int32.toBitVec_or]
  show BitVec.ofNat 32 a ||| BitVec.ofNat 32 (2 ^ p) = BitVec.ofNat 32 (a + 2 ^ p)
  apply BitVec.eq_of_toNat_eq
  rw [BitVec.toNat_or, BitVec.toNat_ofNat, BitVec.toNat_ofNat, BitVec.toNat_ofNat, Nat.mod_eq_of_lt (by omega), Nat.mod_eq_of_lt (by omega), Nat.mod_eq_of_lt (by omega), e]
theorem nxC_eq {f : Vw} {k g : Nat} : smN (f 0) (fun s => upW f k (nP f k - 1) s * bhW f k (nP f k - 1) s * smN (f 0) (fun t => gW f s t * sW f t g)) = nxW f k g := by
  unfold nxW
  refine smN_congr (fun s _ => ?_)
  rw [bhW_l rfl, Nat.mul_one, smN_mul]
  exact smN_congr (fun t _ => (Nat.mul_assoc _ _ _).symm)
theorem nxW_le {f : Vw} {k g : Nat} (w : Wf f) (hk : k < f 1) (hg : g < 3) : nxW f k g ≤ 184884258895036416 := by
  have h : ∀ s, s < f 0 → smN (f 0) (fun t => upW f k (nP f k - 1) s * gW f s t * sW f t g) ≤ 46221064723759104 := fun s hs => by
    have h1 : ∀ t, t < f 0 → upW f k (nP f k - 1) s * gW f s t * sW f t g ≤ 11555266180939776 := fun t ht =>
      Nat.le_trans (Nat.mul_le_mul (Nat.mul_le_mul (upL_le w hk (p := nP f k - 1) (by have := w.p hk; omega) hs) (w.g hs ht)) (w.w ht hg)) (Nat.le_of_ble_eq_true rfl)
    have h2 := smN_le h1
    exact Nat.le_trans h2 (Nat.le_trans (Nat.mul_le_mul_right _ w.n4) (Nat.le_of_ble_eq_true rfl))
  exact Nat.le_trans (smN_le h) (Nat.le_trans (Nat.mul_le_mul_right _ w.n4) (Nat.le_of_ble_eq_true rfl))
theorem amN_s (g : Nat → Nat) (n : Nat) : amN g (n + 1) = if g (amN g n) < g (n + 1) then n + 1 else amN g n := rfl
theorem up_bh {f : Vw} {k : Nat} (w : Wf f) : ∀ p, p + 1 < nP f k → smN (f 0) (fun s => wtW f k p s) = smN (f 0) (fun s => wtW f k (p + 1) s) := by
  intro p hp
  have sw : ∀ (n m : Nat) (g : Nat → Nat → Nat), smN n (fun s => smN m (fun t => g s t)) = smN m (fun t => smN n (fun s => g s t)) := by
    intro n m g
    induction n with
    | zero =>
      have : ∀ m, smN m (fun _ => 0) = 0 := fun m => by
        induction m with
        | zero => rfl
        | succ m ih => rw [smN_s, ih]
      simp [smN, this]
    | succ n ih =>
      rw [smN_s, ih]
      clear ih
      induction m with
      | zero => rfl
      | succ m ih => rw [smN_s, smN_s, smN_s, ← ih, smN_s]; omega
  have e1 : ∀ s, wtW f k p s = smN (f 0) (fun t => upW f k p s * gW f s t * (sW f t (sG f k (p + 1)) * bhW f k (p + 1) t)) := fun s => by
    unfold wtW
    rw [bhW_s hp, smN_mul]
    refine smN_congr (fun t _ => ?_)
    simp only [stW, Nat.mul_assoc]
  have e2 : ∀ t, wtW f k (p + 1) t = smN (f 0) (fun s => upW f k p s * gW f s t * (sW f t (sG f k (p + 1)) * bhW f k (p + 1) t)) := fun t => by
    unfold wtW
    rw [upW, Nat.mul_assoc, Nat.mul_comm, smN_mul]
    refine smN_congr (fun s _ => ?_)
    rw [Nat.mul_comm]
  rw [smN_congr (fun s _ => e1 s), smN_congr (fun s _ => e2 s), sw]
theorem tot_at {f : Vw} {k : Nat} (w : Wf f) : ∀ p, p < nP f k → smN (f 0) (fun s => wtW f k p s) = totW f k
  | 0, _ => rfl
  | p + 1, h => (up_bh w p h).symm.trans (tot_at w p (by omega))
theorem wt_tot {f : Vw} {k p s : Nat} (w : Wf f) (hp : p < nP f k) (hs : s < f 0) : wtW f k p s ≤ totW f k := by
  rw [← tot_at w p hp]
  exact smN_le1 (g := fun s => wtW f k p s) hs
theorem shN_le {a t c : Nat} (h : a ≤ c * t) : shN a t ≤ 1000 * c := by
  unfold shN
  by_cases h0 : t = 0
  · subst h0
    simp
  · refine Nat.div_le_of_le_mul ?_
    calc 1000 * a ≤ 1000 * (c * t) := Nat.mul_le_mul_left _ h
      _ = t * (1000 * c) := by rw [← Nat.mul_assoc, Nat.mul_comm]
theorem shN_small {f : Vw} {k p s : Nat} (w : Wf f) (_ : k < f 1) (hp : p < nP f k) (hs : s < f 0) : shN (wtW f k p s) (totW f k) < 2147483648 := by
  have := shN_le (c := 1) (a := wtW f k p s) (t := totW f k) (by have := wt_tot w hp hs; omega)
  omega
/-- the greatest weight of what follows, the show at the place itself with it -/
def gcW (f : Vw) (k p s : Nat) : Nat := sW f s (sG f k p) * grW f k p s
def gnW (f : Vw) (k p s t : Nat) : Nat := gW f s t * gcW f k (p + 1) t
def bgW (f : Vw) (k s : Nat) : Nat := bW f s * gcW f k 0 s
theorem gnW_st {f : Vw} {k p s t : Nat} : gnW f k p s t = stW f k p s t * grW f k (p + 1) t := by
  simp only [gnW, gcW, stW, Nat.mul_assoc]
theorem bgW_up {f : Vw} {k s : Nat} : bgW f k s = upW f k 0 s * grW f k 0 s := by
  simp only [bgW, gcW, upW, Nat.mul_assoc]
theorem mxN_s (n : Nat) (g : Nat → Nat) : mxN (n + 1) g = if mxN n g < g n then g n else mxN n g := rfl
theorem mx_am (g : Nat → Nat) : ∀ n, g (amN g n) = mxN (n + 1) g
  | 0 => by
    rw [mxN_s]
    show g 0 = if 0 < g 0 then g 0 else 0
    split <;> omega
  | n + 1 => by
    have h := mx_am g n
    rw [mxN_s, amN_s, ← h]
    split <;> rfl
theorem mxN_congr {g h : Nat → Nat} : ∀ {n : Nat}, (∀ k, k < n → g k = h k) → mxN n g = mxN n h
  | 0, _ => rfl
  | n + 1, e => by rw [mxN_s, mxN_s, mxN_congr (fun k hk => e k (by omega)), e n (by omega)]
theorem mxN_le {g : Nat → Nat} {c : Nat} : ∀ {n : Nat}, (∀ k, k < n → g k ≤ c) → mxN n g ≤ c
  | 0, _ => Nat.zero_le _
  | n + 1, e => by
    rw [mxN_s]
    split
    · exact e n (by omega)
    · exact mxN_le (fun k hk => e k (by omega))
theorem grW_am {f : Vw} {k p s : Nat} (w : Wf f) (h : p + 1 < nP f k) : gnW f k p s (amN (gnW f k p s) (f 0 - 1)) = grW f k p s := by
  have := w.n1
  rw [mx_am (gnW f k p s), grW_s h, show f 0 - 1 + 1 = f 0 by omega]
  exact mxN_congr (fun t _ => gnW_st)
def bestW (f : Vw) (k : Nat) : Nat := mxN (f 0) (bgW f k)
def pathW (f : Vw) (k : Nat) : Nat → Nat
  | 0 => amN (bgW f k) (f 0 - 1)
  | p + 1 => amN (gnW f k p (pathW f k p)) (f 0 - 1)
theorem bestW_am {f : Vw} {k : Nat} (w : Wf f) : bgW f k (amN (bgW f k) (f 0 - 1)) = bestW f k := by
  have := w.n1
  rw [mx_am (bgW f k), show f 0 - 1 + 1 = f 0 by omega]
  rfl
theorem pathW_lt {f : Vw} {k : Nat} (w : Wf f) : ∀ p, pathW f k p < f 0 := by
  have := w.n1
  intro p
  cases p with
  | zero => have := amN_le (bgW f k) (f 0 - 1); simp only [pathW]; omega
  | succ p => have := amN_le (gnW f k p (pathW f k p)) (f 0 - 1); simp only [pathW]; omega
theorem grR_le {f : Vw} {k : Nat} (w : Wf f) (hk : k < f 1) : ∀ j, j < nP f k → ∀ s, s < f 0 → grR f k j s ≤ 36 ^ j
  | 0, _, s, _ => by simp [grR]
  | j + 1, hj, s, hs => by
    rw [grR, Nat.pow_succ, Nat.mul_comm]
    exact mxN_le (fun t ht => Nat.mul_le_mul (stW_le w hk (by omega) hs ht) (grR_le w hk j (by omega) t ht))
theorem grW_le {f : Vw} {k p s : Nat} (w : Wf f) (hk : k < f 1) (hp : p < nP f k) (hs : s < f 0) : grW f k p s ≤ 2176782336 := by
  have h := grR_le w hk (nP f k - 1 - p) (by omega) s hs
  have h2 : 36 ^ (nP f k - 1 - p) ≤ 36 ^ 6 := Nat.pow_le_pow_right (by decide) (by have := w.p hk; omega)
  have h3 : (36 : Nat) ^ 6 = 2176782336 := by decide
  unfold grW
  omega
theorem gcW_le {f : Vw} {k p s : Nat} (w : Wf f) (hk : k < f 1) (hp : p < nP f k) (hs : s < f 0) : gcW f k p s ≤ 13060694016 := by
  have h := Nat.mul_le_mul (w.w hs (g := sG f k p) (by have := w.s hk hp; omega)) (grW_le w hk hp hs)
  exact Nat.le_trans h (Nat.le_of_ble_eq_true rfl)
theorem gnW_le {f : Vw} {k p s t : Nat} (w : Wf f) (hk : k < f 1) (hp : p + 1 < nP f k) (hs : s < f 0) (ht : t < f 0) : gnW f k p s t < 2 ^ 63 :=
  Nat.lt_of_le_of_lt (Nat.mul_le_mul (w.g hs ht) (gcW_le w hk hp ht)) (by decide)
theorem bgW_le {f : Vw} {k s : Nat} (w : Wf f) (hk : k < f 1) (hs : s < f 0) : bgW f k s < 2 ^ 63 :=
  Nat.lt_of_le_of_lt (Nat.mul_le_mul (w.b hs) (gcW_le w hk (by have := w.p hk; omega) hs)) (by decide)
/-- what BestRun holds behind read(k) -/
def BM (f : Vw) (k : Nat) (I : Iv) (L : Lv) : Prop := (∀ p, p < nP f k → I 34 p = nI (pathW f k p)) ∧ L 32 3 = lN (bestW f k)
def ptW (f : Vw) (k p s : Nat) : Nat := if 0 < sW f s (sG f k p) then mnW f k p s else 0
def enW (f : Vw) (k p b s : Nat) : Nat := if 0 < (if p = 0 then bW f s else gW f b s) then ptW f k p s else 0
def cntW (f : Vw) (k : Nat) : Nat := smN (f 0) (fun s => enW f k 0 0 s)
theorem en_st {f : Vw} {k p s t : Nat} : enW f k (p + 1) s t = if 0 < stW f k p s t then mnW f k (p + 1) t else 0 := by
  unfold enW ptW stW
  rw [if_neg (Nat.succ_ne_zero p)]
  by_cases h1 : 0 < gW f s t <;> by_cases h2 : 0 < sW f t (sG f k (p + 1))
  · simp [h1, h2]
  · simp [show sW f t (sG f k (p + 1)) = 0 by omega]
  · simp [show gW f s t = 0 by omega]
  · simp [show gW f s t = 0 by omega]
theorem en_up {f : Vw} {k b s : Nat} : enW f k 0 b s = if 0 < upW f k 0 s then mnW f k 0 s else 0 := by
  unfold enW ptW upW
  rw [if_pos rfl]
  by_cases h1 : 0 < bW f s <;> by_cases h2 : 0 < sW f s (sG f k 0)
  · simp [h1, h2]
  · simp [show sW f s (sG f k 0) = 0 by omega]
  · simp [show bW f s = 0 by omega]
  · simp [show bW f s = 0 by omega]
theorem en_mn {f : Vw} {k p s : Nat} (h : p + 1 < nP f k) : smN (f 0) (fun t => enW f k (p + 1) s t) = mnW f k p s := by
  rw [mnW_s h]
  exact smN_congr (fun t _ => en_st)
theorem mnR_le {f : Vw} {k : Nat} (w : Wf f) : ∀ j, ∀ s, mnR f k j s ≤ 4 ^ j
  | 0, s => by simp [mnR]
  | j + 1, s => by
    have h1 : ∀ t, t < f 0 → (if 0 < stW f k (nP f k - 2 - j) s t then mnR f k j t else 0) ≤ 4 ^ j := fun t _ => by
      have := mnR_le (k := k) w j t
      split <;> omega
    have h2 := smN_le h1
    have h3 : f 0 * 4 ^ j ≤ 4 * 4 ^ j := Nat.mul_le_mul_right _ w.n4
    rw [mnR, Nat.pow_succ]
    omega
theorem mnW_le {f : Vw} {k p s : Nat} (w : Wf f) (hk : k < f 1) : mnW f k p s ≤ 4096 := by
  have h := mnR_le (k := k) w (nP f k - 1 - p) s
  have h2 : 4 ^ (nP f k - 1 - p) ≤ 4 ^ 6 := Nat.pow_le_pow_right (by decide) (by have := w.p hk; omega)
  have h3 : (4 : Nat) ^ 6 = 4096 := by decide
  unfold mnW
  omega
theorem ptW_le {f : Vw} {k p s : Nat} (w : Wf f) (hk : k < f 1) : ptW f k p s ≤ 4096 := by
  have := mnW_le (p := p) (s := s) w hk
  unfold ptW
  split <;> omega
theorem enW_le {f : Vw} {k p b s : Nat} (w : Wf f) (hk : k < f 1) : enW f k p b s ≤ 4096 := by
  have h := ptW_le (p := p) (s := s) w hk
  unfold enW
  by_cases q : 0 < (if p = 0 then bW f s else gW f b s)
  · rw [if_pos q]
    exact h
  · rw [if_neg q]
    exact Nat.zero_le _
theorem cntW_le {f : Vw} {k : Nat} (w : Wf f) (hk : k < f 1) : cntW f k ≤ 16384 := by
  have h := smN_le (g := fun s => enW f k 0 0 s) (n := f 0) (c := 4096) (fun s _ => enW_le w hk)
  have := w.n4
  unfold cntW
  omega
/-- the first place at which what is left is below the entry -/
def fnd (e : Nat → Nat) : Nat → Nat → Nat → Nat × Nat
  | 0, l, s => (l, s)
  | m + 1, l, s => if l < e s then (l, s) else fnd e m (l - e s) (s + 1)
theorem fnd_1 (e : Nat → Nat) : ∀ m l s, (fnd e m l s).1 ≤ l
  | 0, l, s => Nat.le_refl _
  | m + 1, l, s => by
    rw [fnd]
    split
    · exact Nat.le_refl _
    · exact Nat.le_trans (fnd_1 e m _ _) (Nat.sub_le _ _)
theorem fnd_2 (e : Nat → Nat) : ∀ m l s, (fnd e m l s).2 ≤ s + m
  | 0, l, s => Nat.le_refl _
  | m + 1, l, s => by
    rw [fnd]
    split
    · exact Nat.le_add_right _ _
    · have := fnd_2 e m (l - e s) (s + 1)
      omega
def rkW (f : Vw) (k r : Nat) : Nat → Nat × Nat
  | 0 => (r, 0)
  | i + 1 => fnd (enW f k i (rkW f k r i).2) (f 0 - 1) (rkW f k r i).1 0
theorem rk_1 {f : Vw} {k r : Nat} : ∀ i, (rkW f k r i).1 ≤ r
  | 0 => Nat.le_refl _
  | i + 1 => Nat.le_trans (fnd_1 _ _ _ _) (rk_1 i)
theorem rk_2 {f : Vw} {k r : Nat} (w : Wf f) : ∀ i, (rkW f k r i).2 < f 0
  | 0 => w.n1
  | i + 1 => by
    have := fnd_2 (enW f k i (rkW f k r i).2) (f 0 - 1) (rkW f k r i).1 0
    have := w.n1
    rw [rkW]
    omega
/-- what RunOrder holds behind read(k) -/
def RM (f : Vw) (k : Nat) (I : Iv) : Prop := (∀ p s, p < nP f k → s < f 0 → I 36 (p * 4 + s) = nI (ptW f k p s)) ∧ I 35 2 = nI (cntW f k)
/-! the reference's rows -/
def UM (f : Vw) (k : Nat) (L : Lv) : Prop :=
  (∀ p s j, p < nP f k → s < f 0 → j = 4 * p + s → L 46 j = lN (upW f k p s)) ∧
  (∀ p s j, p < nP f k → s < f 0 → j = 4 * p + s → L 47 j = lN (bhW f k p s)) ∧
  (∀ p s j, p < nP f k → s < f 0 → j = 4 * p + s → L 48 j = lN (grW f k p s)) ∧
  (∀ p s j, p < nP f k → s < f 0 → j = 4 * p + s → L 49 j = lN (mnW f k p s))
def inr (z a b : Int32) : Nat := if z < a ∨ b < z then 0 else 1
theorem inr_lt (z a b : Int32) : inr z a b < 2 := by
  unfold inr
  split <;> omega
theorem inr_inb {z : Int32} {n : Nat} (hn : n < 2 ^ 30) : inr z (nI 0) (nI n - nI 1) = inb z n := by
  unfold inr inb
  have e : (nI n - nI 1 < z) ↔ nI n ≤ z := by
    rw [Int32.lt_iff_toInt_lt, Int32.le_iff_toInt_le, pk_sub_toInt hn (by decide), nI_toInt (by omega)]
    omega
  have e0 : (nI 0 : Int32) = 0 := rfl
  rw [e0]
  by_cases h : z < 0 ∨ nI n ≤ z
  · rw [if_pos h, if_pos (h.imp id e.mpr)]
  · rw [if_neg h, if_neg (fun q => h (q.imp id e.mp))]
theorem grW_mx {f : Vw} {k p s : Nat} (h : p + 1 < nP f k) : grW f k p s = mxN (f 0) (gnW f k p s) := by
  rw [grW_s h]
  exact mxN_congr (fun t _ => gnW_st.symm)
theorem am_first (g : Nat → Nat) : ∀ n t, t < amN g n → g t < g (amN g n)
  | 0, t, h => absurd h (Nat.not_lt_zero t)
  | n + 1, t, h => by
    rw [amN_s] at h ⊢
    by_cases q : g (amN g n) < g (n + 1)
    · rw [if_pos q] at h ⊢
      have hx := mx_am g n
      have : g t ≤ mxN (n + 1) g := by
        have ht : t < n + 1 := h
        clear h q hx
        have key : ∀ m, t < m → g t ≤ mxN m g := by
          intro m
          induction m with
          | zero => intro h; omega
          | succ m ih =>
            intro h
            rw [mxN_s]
            by_cases e : t = m
            · subst e
              split <;> omega
            · have := ih (by omega)
              split <;> omega
        exact key _ ht
      omega
    · rw [if_neg q] at h ⊢
      exact am_first g n t h
theorem am_ne {g : Nat → Nat} {n t : Nat} (hn : 0 < n) (h : t < amN g (n - 1)) : g t ≠ mxN n g := by
  have h1 := am_first g (n - 1) t h
  have h2 := mx_am g (n - 1)
  rw [show n - 1 + 1 = n by omega] at h2
  omega
theorem am_eq {g : Nat → Nat} {n : Nat} (hn : 0 < n) : g (amN g (n - 1)) = mxN n g := by
  have h2 := mx_am g (n - 1)
  rwa [show n - 1 + 1 = n by omega] at h2
def smT (e : Nat → Nat) : Nat → Nat → Nat
  | s, 0 => e s
  | s, m + 1 => e s + smT e (s + 1) m
theorem smT_smN (e : Nat → Nat) : ∀ m s, smT e s m + smN s e = smN (s + m + 1) e
  | 0, s => by
    rw [smT, Nat.add_zero, smN_s]
    omega
  | m + 1, s => by
    have h := smT_smN e m (s + 1)
    rw [smT, show s + (m + 1) + 1 = s + 1 + m + 1 by omega, ← h, smN_s]
    omega
theorem smT_0 {e : Nat → Nat} {n : Nat} (hn : 0 < n) : smT e 0 (n - 1) = smN n e := by
  have h := smT_smN e (n - 1) 0
  rw [show 0 + (n - 1) + 1 = n by omega] at h
  simpa [smN] using h
theorem fnd_lt (e : Nat → Nat) : ∀ m l s, l < smT e s m → (fnd e m l s).1 < e (fnd e m l s).2
  | 0, l, s, h => h
  | m + 1, l, s, h => by
    rw [fnd]
    by_cases q : l < e s
    · rw [if_pos q]
      exact q
    · rw [if_neg q]
      rw [smT] at h
      exact fnd_lt e m (l - e s) (s + 1) (by omega)
theorem rk_lt {f : Vw} {k r : Nat} (w : Wf f) (hr : r < cntW f k) : ∀ i, i < nP f k → (rkW f k r (i + 1)).1 < enW f k i (rkW f k r i).2 (rkW f k r (i + 1)).2 ∧ (rkW f k r i).1 < smN (f 0) (enW f k i (rkW f k r i).2)
  | 0, _ => by
    refine ⟨fnd_lt _ _ _ _ ?_, ?_⟩
    · rw [smT_0 w.n1]
      exact hr
    · exact hr
  | i + 1, h => by
    have h1 := (rk_lt w hr i (by omega)).1
    have h2 : (rkW f k r (i + 1)).1 < smN (f 0) (enW f k (i + 1) (rkW f k r (i + 1)).2) := by
      have e : smN (f 0) (enW f k (i + 1) (rkW f k r (i + 1)).2) = mnW f k i (rkW f k r (i + 1)).2 := en_mn h
      rw [e]
      refine Nat.lt_of_lt_of_le h1 ?_
      unfold enW
      by_cases q : 0 < (if i = 0 then bW f (rkW f k r (i + 1)).2 else gW f (rkW f k r i).2 (rkW f k r (i + 1)).2)
      · rw [if_pos q]
        unfold ptW
        by_cases q2 : 0 < sW f (rkW f k r (i + 1)).2 (sG f k i)
        · rw [if_pos q2]
          exact Nat.le_refl _
        · rw [if_neg q2]
          exact Nat.zero_le _
      · rw [if_neg q]
        exact Nat.zero_le _
    refine ⟨fnd_lt _ _ _ _ ?_, h2⟩
    rw [smT_0 w.n1]
    exact h2
theorem bestW_lt {f : Vw} {k : Nat} (w : Wf f) (hk : k < f 1) : bestW f k < 2 ^ 63 :=
  Nat.lt_of_le_of_lt (mxN_le (c := 2 ^ 63 - 1) (fun s hs => by have := bgW_le w hk hs; omega)) (by decide)
theorem smT_s (e : Nat → Nat) (s m : Nat) : smT e s (m + 1) = e s + smT e (s + 1) m := rfl
end
section
/-! what the reading calls answer -/
def ix (z : Int32) : Nat := z.toNatClampNeg
def ipl (f : Vw) (z p : Int32) : Nat := if inb z (f 1) = 0 then 0 else inb p (nP f (ix z))
def dW (f : Vw) (k : Nat) : Nat := if 0 < totW f k then dbW f k (nP f k) else 0
def aSign (f : Vw) (z p : Int32) : Int32 := if ipl f z p = 0 then (-1) else nI (sG f (ix z) (ix p))
def aOf (f : Vw) (z h : Int32) : Int64 := if inb z (f 1) = 0 then (-1) else if h = nI 0 then lN (totW f (ix z)) else if h = nI 1 then lN (cntW f (ix z)) else if h = nI 2 then lN (bestW f (ix z)) else (-2)
def aBest (f : Vw) (z p : Int32) : Int32 := if ipl f z p = 0 then (-1) else if 0 < bestW f (ix z) then nI (pathW f (ix z) (ix p)) else (-5)
def aShare (f : Vw) (z p s : Int32) : Int32 := if ipl f z p = 0 ∨ inb s (f 0) = 0 then (-1) else if 0 < totW f (ix z) then nI (shN (wtW f (ix z) (ix p) (ix s)) (totW f (ix z))) else (-5)
def aLike (f : Vw) (z p : Int32) : Int32 := if ipl f z p = 0 then (-1) else if 0 < totW f (ix z) then nI (lkW f (ix z) (ix p)) else (-5)
def aDoubt (f : Vw) (z : Int32) : Int32 := if inb z (f 1) = 0 then (-1) else nI (dW f (ix z))
def aRun (f : Vw) (z r p : Int32) : Int32 := if ipl f z p = 0 then (-1) else if r < 0 then (-2) else if ix r < cntW f (ix z) then nI (rkW f (ix z) (ix r) (ix p + 1)).2 else (-5)
def nxT (f : Vw) (k : Nat) : Nat := smN 3 (nxW f k)
def aNext (f : Vw) (z g : Int32) : Int32 := if inb z (f 1) = 0 ∨ inb g 3 = 0 then (-1) else if 0 < nxT f (ix z) then nI (shN (nxW f (ix z) (ix g)) (nxT f (ix z))) else (-5)
/-- what lives on behind a reading call -/
def live (a q : Nat) : Prop := a ≤ 28 ∨ (a = 40 ∧ (q = 4 ∨ q = 6 ∨ q = 8)) ∨ a = 41 ∨ a = 43 ∨ a = 44 ∨ a = 45
def Kp (I I1 : Iv) : Prop := ∀ a q, live a q → I1 a q = I a q
theorem Kp.rf (I : Iv) : Kp I I := fun _ _ _ => rfl
theorem Kp.tr {I I1 I2 : Iv} (h : Kp I I1) (g : Kp I1 I2) : Kp I I2 := fun a q hl => (g a q hl).trans (h a q hl)
theorem Kp.row {I I1 : Iv} (h : Kp I I1) {a : Nat} (ha : a ≤ 28 ∨ a = 41 ∨ a = 43 ∨ a = 44 ∨ a = 45) : I1 a = I a := funext (fun q => h a q (by unfold live; omega))
theorem ix_n {k : Nat} (h : k < 2147483648) : ix (nI k) = k := nI_clamp h
theorem ipl_0 {f : Vw} {z p : Int32} (h : inb z (f 1) = 0) : ipl f z p = 0 := if_pos h
theorem ipl_b {f : Vw} {z p : Int32} (h : inb z (f 1) ≠ 0) : ipl f z p = inb p (nP f (ix z)) := if_neg h
theorem ipl_lt (f : Vw) (z p : Int32) : ipl f z p < 2 := by
  unfold ipl
  split
  · decide
  · exact inb_lt _ _
theorem ipl_1 {f : Vw} {z p : Int32} (w : Wf f) (h : ipl f z p ≠ 0) : ∃ k q, k < f 1 ∧ q < nP f k ∧ z = nI k ∧ p = nI q := by
  have h6 := w.m6
  by_cases c : inb z (f 1) = 0
  · exact absurd (ipl_0 c) h
  · obtain ⟨k, hk, ez⟩ := inb_1 (by omega) c
    rw [ipl_b c, ez, ix_n (by omega)] at h
    obtain ⟨q, hq, ep⟩ := inb_1 (by have := (w.p hk).2; omega) h
    exact ⟨k, q, hk, hq, ez, ep⟩
theorem ipl_in {f : Vw} (w : Wf f) {k q : Nat} (hk : k < f 1) (hq : q < nP f k) : ipl f (nI k) (nI q) = 1 := by
  have h6 := w.m6
  have h7 := (w.p hk).2
  rw [ipl_b (by rw [inb_in hk (by omega)]; decide), ix_n (by omega), inb_in hq (by omega)]
theorem qZ {Q : Qt} {I : Iv} {L : Lv} {P : Pv} {a b : Int32} (h : Q (some (.int a)) I L P) (e : b = a) : Q (some (.int b)) I L P := e ▸ h
theorem qW {Q : Qt} {I : Iv} {L : Lv} {P : Pv} {a b : Int64} (h : Q (some (.long a)) I L P) (e : b = a) : Q (some (.long b)) I L P := e ▸ h
theorem nxT_le {f : Vw} {k : Nat} (w : Wf f) (hk : k < f 1) : nxT f k < 576460752303423488 := by
  have h := smN_le (g := nxW f k) (n := 3) (c := 184884258895036416) (fun g hg => nxW_le w hk hg)
  unfold nxT
  omega
theorem mul_pos_both {a b c : Nat} (h : 0 < b ↔ 0 < c) : 0 < a * b ↔ 0 < a * c := by
  by_cases ha : a = 0
  · subst ha
    simp
  · by_cases hb : b = 0
    · have hc : c = 0 := by omega
      rw [hb, hc]
    · have hc : 0 < c := h.mp (by omega)
      exact ⟨fun _ => Nat.mul_pos (by omega) hc, fun _ => Nat.mul_pos (by omega) (by omega)⟩
theorem gr_pos {f : Vw} {k : Nat} (w : Wf f) : ∀ j, j < nP f k → ∀ s, s < f 0 → (0 < grR f k j s ↔ 0 < bhR f k j s)
  | 0, _, s, _ => by simp [grR, bhR]
  | j + 1, hj, s, hs => by
    have mp : ∀ (g : Nat → Nat) n, 0 < mxN n g ↔ 0 < smN n g := fun g n => by
      induction n with
      | zero => simp [mxN, smN]
      | succ n ih =>
        rw [mxN_s, smN_s]
        split <;> omega
    rw [grR, bhR, mp]
    have key : ∀ n, n ≤ f 0 → (0 < smN n (fun t => stW f k (nP f k - 2 - j) s t * grR f k j t) ↔ 0 < smN n (fun t => stW f k (nP f k - 2 - j) s t * bhR f k j t)) := by
      intro n
      induction n with
      | zero => intro _; simp [smN]
      | succ n ih =>
        intro hn
        have h1 := ih (by omega)
        have h2 := gr_pos (k := k) w j (by omega) n (by omega)
        have h3 := mul_pos_both (a := stW f k (nP f k - 2 - j) s n) h2
        rw [smN_s, smN_s]
        constructor
        · intro q
          rcases (show 0 < smN n (fun t => stW f k (nP f k - 2 - j) s t * grR f k j t) ∨ 0 < stW f k (nP f k - 2 - j) s n * grR f k j n by omega) with q1 | q1
          · have := h1.mp q1
            omega
          · have := h3.mp q1
            omega
        · intro q
          rcases (show 0 < smN n (fun t => stW f k (nP f k - 2 - j) s t * bhR f k j t) ∨ 0 < stW f k (nP f k - 2 - j) s n * bhR f k j n by omega) with q1 | q1
          · have := h1.mpr q1
            omega
          · have := h3.mpr q1
            omega
    exact key (f 0) (Nat.le_refl _)
theorem best_tot {f : Vw} {k : Nat} (w : Wf f) (hk : k < f 1) : 0 < bestW f k ↔ 0 < totW f k := by
  have mp : ∀ (g : Nat → Nat) n, 0 < mxN n g ↔ 0 < smN n g := fun g n => by
    induction n with
    | zero => simp [mxN, smN]
    | succ n ih =>
      rw [mxN_s, smN_s]
      split <;> omega
  unfold bestW totW
  rw [mp]
  have hp := w.p hk
  have key : ∀ n, n ≤ f 0 → (0 < smN n (bgW f k) ↔ 0 < smN n (fun s => wtW f k 0 s)) := by
    intro n
    induction n with
    | zero => intro _; simp [smN]
    | succ n ih =>
      intro hn
      have h1 := ih (by omega)
      have h2 := gr_pos (k := k) w (nP f k - 1 - 0) (by omega) n (by omega)
      have h3 := mul_pos_both (a := upW f k 0 n) h2
      have e1 : bgW f k n = upW f k 0 n * grR f k (nP f k - 1 - 0) n := bgW_up
      have e2 : wtW f k 0 n = upW f k 0 n * bhR f k (nP f k - 1 - 0) n := rfl
      rw [smN_s, smN_s, e1, e2]
      constructor
      · intro q
        rcases (show 0 < smN n (bgW f k) ∨ 0 < upW f k 0 n * grR f k (nP f k - 1 - 0) n by omega) with q1 | q1
        · have := h1.mp q1
          omega
        · have := h3.mp q1
          omega
      · intro q
        rcases (show 0 < smN n (fun s => wtW f k 0 s) ∨ 0 < upW f k 0 n * bhR f k (nP f k - 1 - 0) n by omega) with q1 | q1
        · have := h1.mpr q1
          omega
        · have := h3.mpr q1
          omega
  exact key (f 0) (Nat.le_refl _)
end
section
/-! copies, history -/
theorem cpy_at {I I1 : Iv} {i0 i1 n : Nat} (e : I1 = cpy2 I i0 i1 0 0 n) {j : Nat} (h : j < n) : I1 i1 j = I i0 j := by
  rw [e]
  simp [cpy2, h]
theorem cpy_row {I I1 : Iv} {i0 i1 sp dp n : Nat} (e : I1 = cpy2 I i0 i1 sp dp n) {a : Nat} (h : a ≠ i1) : I1 a = I a := by
  rw [e]
  funext q
  simp [cpy2, h]
def CPY (b b' : Nat) (I I1 : Iv) : Prop := I1 b 1 = I b' 1 ∧ I1 b 2 = I b' 2 ∧ I1 b 5 = I b' 5 ∧ (∀ j, j < 32 → I1 (b + 1) j = I (b' + 1) j) ∧ (∀ j, j < 6 → I1 (b + 2) j = I (b' + 2) j) ∧ (∀ j, j < 42 → I1 (b + 3) j = I (b' + 3) j)
theorem CPY.rc {b b' : Nat} {I I1 : Iv} {f : Vw} (h : CPY b b' I I1) (c : RC b' f I) (w : Wf f) : RC b f I1 := by
  obtain ⟨h1, h2, h3, h4, h5, h6⟩ := h
  have := w.n4
  have := w.m6
  refine ⟨h1.trans c.st, h3.trans c.sm, h2.trans c.bd, fun s hs => ?_, fun s t hs ht => ?_, fun s g hs hg => ?_, fun k hk => ?_, fun k p hk hp => ?_⟩
  · exact (h4 _ (by omega)).trans (c.b hs)
  · exact (h4 _ (by omega)).trans (c.g hs ht)
  · exact (h4 _ (by omega)).trans (c.w hs hg)
  · exact (h5 _ (by omega)).trans (c.n hk)
  · exact (h6 _ (by have := w.p hk; omega)).trans (c.s hk hp)
theorem RR.on {h h' : Nat → Int32} {f : Vw} (c : RR h f) (w : Wf f) (e : ∀ j, j < 83 → h' j = h j) : RR h' f := by
  have := w.n4
  have := w.m6
  refine ⟨(e 0 (by decide)).trans c.st, (e 1 (by decide)).trans c.sm, (e 2 (by decide)).trans c.bd, fun s hs => ?_, fun s t hs ht => ?_, fun s g hs hg => ?_, fun k hk => ?_, fun k p hk hp => ?_⟩
  · exact (e _ (by omega)).trans (c.b hs)
  · exact (e _ (by omega)).trans (c.g hs ht)
  · exact (e _ (by omega)).trans (c.w hs hg)
  · exact (e _ (by omega)).trans (c.n hk)
  · exact (e _ (by have := w.p hk; omega)).trans (c.s hk hp)
abbrev Hs : Type := Nat → Vw
def recH (H : Hs) (hn : Nat) (f : Vw) : Hs := if hn = 4 then (fun i => if i = 3 then f else H (i + 1)) else (fun i => if i = hn then f else H i)
def recN (hn : Nat) : Nat := if hn = 4 then 4 else hn + 1
def isM (b : Nat) : Prop := b = 11 ∨ b = 15 ∨ b = 19 ∨ b = 23
/-- the history of the class -/
def HC (H : Hs) (hn : Nat) (I : Iv) (P : Pv) : Prop := hn ≤ 4 ∧ I 9 1 = nI hn ∧ (∀ i, i < 4 → isM (P i)) ∧ (∀ i j, i < 4 → j < 4 → P i = P j → i = j) ∧ ∀ i, i < hn → RC (P i) (H i) I
/-- the history of the reference -/
def HR (H : Hs) (hn : Nat) (I : Iv) : Prop := hn ≤ 4 ∧ I 40 4 = nI hn ∧ ∀ i, i < hn → RR (fun j => I 43 (83 * i + j)) (H i)
def HW (H : Hs) (hn : Nat) : Prop := ∀ i, i < hn → Wf (H i)
theorem HW.rec {H : Hs} {hn : Nat} {f : Vw} (h : HW H hn) (w : Wf f) : HW (recH H hn f) (recN hn) := by
  intro i hi
  unfold recN at hi
  unfold recH
  by_cases e : hn = 4
  · rw [if_pos e] at hi ⊢
    by_cases q : i = 3
    · simpa [q] using w
    · simp only [q, if_false]
      exact h (i + 1) (by omega)
  · rw [if_neg e] at hi ⊢
    by_cases q : i = hn
    · simpa [q] using w
    · simp only [q, if_false]
      exact h i (by omega)
theorem isM_hs {b : Nat} (h : isM b) : b < 54 ∧ hs b = (0, 3) := by
  rcases h with e | e | e | e <;> subst e <;> exact ⟨by decide, rfl⟩
theorem HC.same {H : Hs} {hn : Nat} {I I1 : Iv} {P : Pv} (h : HC H hn I P) (e : ∀ a, 9 ≤ a → a ≤ 26 → I1 a = I a) : HC H hn I1 P := by
  obtain ⟨h1, h2, h3, h4, h5⟩ := h
  refine ⟨h1, by rw [e 9 (by decide) (by decide)]; exact h2, h3, h4, fun i hi => (h5 i hi).same (fun a ha hb => e a ?_ ?_)⟩
  · rcases h3 i (by omega) with q | q | q | q <;> omega
  · rcases h3 i (by omega) with q | q | q | q <;> omega
theorem isM_ap {a b : Nat} (ha : isM a) (hb : isM b) (h : a ≠ b) : a + 3 < b ∨ b + 3 < a := by
  rcases ha with e | e | e | e <;> rcases hb with q | q | q | q <;> omega
theorem HC_recA {H : Hs} {hn : Nat} {I Ic I1 : Iv} {P : Pv} {f : Vw} (hc : HC H hn I P) (w : Wf f) (c : RC 1 f I) (hn4 : hn ≠ 4) (fc : ∀ a, (a < P hn ∨ P hn + 3 < a) → Ic a = I a) (cc : CPY (P hn) 1 I Ic) (e : I1 = up2 Ic 9 1 (nI (hn + 1))) : HC (recH H hn f) (recN hn) I1 P := by
  obtain ⟨h1, h2, h3, h4, h5⟩ := hc
  have hm := h3 hn (by omega)
  refine ⟨by unfold recN; rw [if_neg hn4]; omega, ?_, h3, h4, fun i hi => ?_⟩
  · rw [e, recN, if_neg hn4]
    simp [up2]
  · rw [recN, if_neg hn4] at hi
    have mi := h3 i (by omega)
    have g1 : ∀ a, P i ≤ a → a ≤ P i + 3 → I1 a = Ic a := fun a q1 q2 => up2_row e (by rcases mi with q | q | q | q <;> omega)
    unfold recH
    rw [if_neg hn4]
    by_cases q : i = hn
    · subst q
      simp only [if_true]
      exact (cc.rc c w).same g1
    · simp only [q, if_false]
      refine (h5 i (by omega)).same (fun a q1 q2 => (g1 a q1 q2).trans (fc a ?_))
      have := isM_ap mi hm (fun z => q (h4 i hn (by omega) (by omega) z))
      omega
theorem HC_recB {H : Hs} {I Id Ic I1 : Iv} {P Pd : Pv} {f : Vw} (hc : HC H 4 I P) (w : Wf f) (c : RC 1 f I) (ed : Id = up2 I 9 1 (nI 3)) (p1 : ∀ i, i < 3 → Pd i = P (i + 1)) (p2 : Pd 3 = P 0) (fc : ∀ a, (a < P 0 ∨ P 0 + 3 < a) → Ic a = Id a) (cc : CPY (P 0) 1 Id Ic) (e : I1 = up2 Ic 9 1 (nI (3 + 1))) : HC (recH H 4 f) (recN 4) I1 Pd := by
  obtain ⟨h1, h2, h3, h4, h5⟩ := hc
  have hm := h3 0 (by decide)
  have c1 : RC 1 f Id := c.same (fun a q1 q2 => up2_row ed (by omega))
  have pd : ∀ i, i < 4 → (i = 3 ∧ Pd i = P 0) ∨ (i < 3 ∧ Pd i = P (i + 1)) := fun i hi => by
    by_cases q : i = 3
    · subst q
      exact Or.inl ⟨rfl, p2⟩
    · exact Or.inr ⟨by omega, p1 i (by omega)⟩
  refine ⟨Nat.le_refl 4, ?_, fun i hi => ?_, fun i j hi hj q => ?_, fun i hi => ?_⟩
  · rw [e]
    simp [up2, recN]
  · rcases pd i hi with ⟨-, q⟩ | ⟨q1, q⟩ <;> rw [q]
    · exact hm
    · exact h3 _ (by omega)
  · rcases pd i hi with ⟨a1, a2⟩ | ⟨a1, a2⟩ <;> rcases pd j hj with ⟨b1, b2⟩ | ⟨b1, b2⟩ <;> rw [a2, b2] at q
    · omega
    · have := h4 0 (j + 1) (by decide) (by omega) q
      omega
    · have := h4 (i + 1) 0 (by omega) (by decide) q
      omega
    · have := h4 (i + 1) (j + 1) (by omega) (by omega) q
      omega
  · have hi4 : i < 4 := hi
    unfold recH
    rw [if_pos rfl]
    rcases pd i hi4 with ⟨a1, a2⟩ | ⟨a1, a2⟩
    · simp only [a1, if_true]
      rw [← a1, a2]
      refine (cc.rc c1 w).same (fun a q1 q2 => up2_row e ?_)
      rcases hm with q | q | q | q <;> omega
    · simp only [show i ≠ 3 by omega, if_false]
      rw [a2]
      have mi := h3 (i + 1) (by omega)
      refine (h5 (i + 1) (by omega)).same (fun a q1 q2 => ?_)
      have ap := isM_ap mi hm (fun z => absurd (h4 (i + 1) 0 (by omega) (by decide) z) (by omega))
      have n9 : a ≠ 9 := by rcases mi with q | q | q | q <;> omega
      rw [up2_row e n9, fc a (by omega), up2_row ed n9]
theorem HC_take {H : Hs} {hn : Nat} {I Id I1 : Iv} {P : Pv} (hc : HC H (hn + 1) I P) (ed : Id = up2 I 9 1 (nI hn)) (fc : ∀ a, (a < 1 ∨ 1 + 3 < a) → I1 a = Id a) : HC H hn I1 P := by
  obtain ⟨h1, h2, h3, h4, h5⟩ := hc
  refine ⟨by omega, by rw [fc 9 (by omega)]; exact up2_at ed, h3, h4, fun i hi => ?_⟩
  have mi := h3 i (by omega)
  refine (h5 i (by omega)).same (fun a q1 q2 => ?_)
  have n9 : a ≠ 9 := by rcases mi with q | q | q | q <;> omega
  rw [fc a (by rcases mi with q | q | q | q <;> omega), up2_row ed n9]
end
section
set_option maxHeartbeats 4000000 in
theorem sp_X3_copyFrom_5_1 {x : Cx} {Q : Qt} {I : Iv} {L : Lv} {P : Pv} (hQ : ∀ I1 : Iv, (∀ a, (a < 5 ∨ 8 < a) → I1 a = I a) → CPY 5 1 I I1 → Q none I1 L P) : SP x M_X3_copyFrom [rfv x 5, rfv x 1] I L P Q := by
  refine SP.intro [some (rfv x 5), some (rfv x 1)] pn_X3_copyFrom (Nat.le_of_ble_eq_true rfl) rfl ?_
  refine v_aload_n 1 rfl dX3_copyFrom_0 rfl ?_
  refine v_get 4 (k := 0) 3 (rfv x 2) (by decide) rfl (by decide) (by decide) dX3_copyFrom_1 rfl fl_X3_11 rfl ?_
  refine v_iconst 5 (nI (0)) (by decide) dX3_copyFrom_4 rfl ?_
  refine v_aload_n 6 rfl dX3_copyFrom_5 rfl ?_
  refine v_get 9 (k := 0) 3 (rfv x 6) (by decide) rfl (by decide) (by decide) dX3_copyFrom_6 rfl fl_X3_11 rfl ?_
  refine v_iconst 10 (nI (0)) (by decide) dX3_copyFrom_9 rfl ?_
  refine v_bipush 12 (nI (32)) (by decide) dX3_copyFrom_10 rfl ?_
  refine v_acopy 15 (sp := 0) (dp := 0) (n := 32) (by decide) (by decide) rfl rfl dX3_copyFrom_12 rfl ml_X3_28 ⟨by decide, Nat.le_of_ble_eq_true rfl⟩ rfl rfl rfl ⟨by decide, by decide⟩ (by omega) (by omega) (fun I12 e12 => ?_)
  refine v_aload_n 16 rfl dX3_copyFrom_15 rfl ?_
  refine v_aload_n 17 rfl dX3_copyFrom_16 rfl ?_
  refine v_get 20 (k := 1) 3 (.int (I12 1 1)) (by decide) rfl (by decide) (by decide) dX3_copyFrom_17 rfl fl_X3_15 rfl ?_
  refine v_putI 23 (k := 1) 3 .int (by decide) rfl (by decide) (by decide) rfl (by decide +kernel) rfl rfl (fun _ _ => rfl) dX3_copyFrom_20 rfl fl_X3_15 (fun I20 e20 => ?_)
  refine v_aload_n 24 rfl dX3_copyFrom_23 rfl ?_
  refine v_aload_n 25 rfl dX3_copyFrom_24 rfl ?_
  refine v_get 28 (k := 2) 3 (.int (I20 1 2)) (by decide) rfl (by decide) (by decide) dX3_copyFrom_25 rfl fl_X3_19 rfl ?_
  refine v_putI 31 (k := 2) 3 .int (by decide) rfl (by decide) (by decide) rfl (by decide +kernel) rfl rfl (fun _ _ => rfl) dX3_copyFrom_28 rfl fl_X3_19 (fun I28 e28 => ?_)
  refine v_aload_n 32 rfl dX3_copyFrom_31 rfl ?_
  refine v_get 35 (k := 3) 3 (rfv x 3) (by decide) rfl (by decide) (by decide) dX3_copyFrom_32 rfl fl_X3_22 rfl ?_
  refine v_iconst 36 (nI (0)) (by decide) dX3_copyFrom_35 rfl ?_
  refine v_aload_n 37 rfl dX3_copyFrom_36 rfl ?_
  refine v_get 40 (k := 3) 3 (rfv x 7) (by decide) rfl (by decide) (by decide) dX3_copyFrom_37 rfl fl_X3_22 rfl ?_
  refine v_iconst 41 (nI (0)) (by decide) dX3_copyFrom_40 rfl ?_
  refine v_bipush 43 (nI (6)) (by decide) dX3_copyFrom_41 rfl ?_
  refine v_acopy 46 (sp := 0) (dp := 0) (n := 6) (by decide) (by decide) rfl rfl dX3_copyFrom_43 rfl ml_X3_28 ⟨by decide, Nat.le_of_ble_eq_true rfl⟩ rfl rfl rfl ⟨by decide, by decide⟩ (by omega) (by omega) (fun I43 e43 => ?_)
  refine v_aload_n 47 rfl dX3_copyFrom_46 rfl ?_
  refine v_get 50 (k := 4) 3 (rfv x 4) (by decide) rfl (by decide) (by decide) dX3_copyFrom_47 rfl fl_X3_25 rfl ?_
  refine v_iconst 51 (nI (0)) (by decide) dX3_copyFrom_50 rfl ?_
  refine v_aload_n 52 rfl dX3_copyFrom_51 rfl ?_
  refine v_get 55 (k := 4) 3 (rfv x 8) (by decide) rfl (by decide) (by decide) dX3_copyFrom_52 rfl fl_X3_25 rfl ?_
  refine v_iconst 56 (nI (0)) (by decide) dX3_copyFrom_55 rfl ?_
  refine v_bipush 58 (nI (42)) (by decide) dX3_copyFrom_56 rfl ?_
  refine v_acopy 61 (sp := 0) (dp := 0) (n := 42) (by decide) (by decide) rfl rfl dX3_copyFrom_58 rfl ml_X3_28 ⟨by decide, Nat.le_of_ble_eq_true rfl⟩ rfl rfl rfl ⟨by decide, by decide⟩ (by omega) (by omega) (fun I58 e58 => ?_)
  refine v_aload_n 62 rfl dX3_copyFrom_61 rfl ?_
  refine v_aload_n 63 rfl dX3_copyFrom_62 rfl ?_
  refine v_get 66 (k := 5) 3 (.int (I58 1 5)) (by decide) rfl (by decide) (by decide) dX3_copyFrom_63 rfl fl_X3_34 rfl ?_
  refine v_putI 69 (k := 5) 3 .int (by decide) rfl (by decide) (by decide) rfl (by decide +kernel) rfl rfl (fun _ _ => rfl) dX3_copyFrom_66 rfl fl_X3_34 (fun I66 e66 => ?_)
  refine v_vret rfl dX3_copyFrom_69 ?_
  refine hQ I66 (fun a ha => ?_) ⟨?_, ?_, ?_, fun j hj => ?_, fun j hj => ?_, fun j hj => ?_⟩
  · rw [up2_row e66 (by omega), cpy_row e58 (by omega), cpy_row e43 (by omega), up2_row e28 (by omega), up2_row e20 (by omega), cpy_row e12 (by omega)]
  · rw [up2_off e66 (by omega), cpy_row e58 (by decide), cpy_row e43 (by decide), up2_off e28 (by omega), up2_at e20, cpy_row e12 (by decide)]
  · rw [up2_off e66 (by omega), cpy_row e58 (by decide), cpy_row e43 (by decide), up2_at e28, up2_row e20 (by decide), cpy_row e12 (by decide)]
  · rw [up2_at e66, cpy_row e58 (by decide), cpy_row e43 (by decide), up2_row e28 (by decide), up2_row e20 (by decide), cpy_row e12 (by decide)]
  · rw [up2_row e66 (by decide), cpy_row e58 (by decide), cpy_row e43 (by decide), up2_row e28 (by decide), up2_row e20 (by decide), cpy_at e12 hj]
  · rw [up2_row e66 (by decide), cpy_row e58 (by decide), cpy_at e43 hj, up2_row e28 (by decide), up2_row e20 (by decide), cpy_row e12 (by decide)]
  · rw [up2_row e66 (by decide), cpy_at e58 hj, cpy_row e43 (by decide), up2_row e28 (by decide), up2_row e20 (by decide), cpy_row e12 (by decide)]
set_option maxHeartbeats 4000000 in
theorem sp_X3_copyFrom_1_5 {x : Cx} {Q : Qt} {I : Iv} {L : Lv} {P : Pv} (hQ : ∀ I1 : Iv, (∀ a, (a < 1 ∨ 4 < a) → I1 a = I a) → CPY 1 5 I I1 → Q none I1 L P) : SP x M_X3_copyFrom [rfv x 1, rfv x 5] I L P Q := by
  refine SP.intro [some (rfv x 1), some (rfv x 5)] pn_X3_copyFrom (Nat.le_of_ble_eq_true rfl) rfl ?_
  refine v_aload_n 1 rfl dX3_copyFrom_0 rfl ?_
  refine v_get 4 (k := 0) 3 (rfv x 6) (by decide) rfl (by decide) (by decide) dX3_copyFrom_1 rfl fl_X3_11 rfl ?_
  refine v_iconst 5 (nI (0)) (by decide) dX3_copyFrom_4 rfl ?_
  refine v_aload_n 6 rfl dX3_copyFrom_5 rfl ?_
  refine v_get 9 (k := 0) 3 (rfv x 2) (by decide) rfl (by decide) (by decide) dX3_copyFrom_6 rfl fl_X3_11 rfl ?_
  refine v_iconst 10 (nI (0)) (by decide) dX3_copyFrom_9 rfl ?_
  refine v_bipush 12 (nI (32)) (by decide) dX3_copyFrom_10 rfl ?_
  refine v_acopy 15 (sp := 0) (dp := 0) (n := 32) (by decide) (by decide) rfl rfl dX3_copyFrom_12 rfl ml_X3_28 ⟨by decide, Nat.le_of_ble_eq_true rfl⟩ rfl rfl rfl ⟨by decide, by decide⟩ (by omega) (by omega) (fun I12 e12 => ?_)
  refine v_aload_n 16 rfl dX3_copyFrom_15 rfl ?_
  refine v_aload_n 17 rfl dX3_copyFrom_16 rfl ?_
  refine v_get 20 (k := 1) 3 (.int (I12 5 1)) (by decide) rfl (by decide) (by decide) dX3_copyFrom_17 rfl fl_X3_15 rfl ?_
  refine v_putI 23 (k := 1) 3 .int (by decide) rfl (by decide) (by decide) rfl (by decide +kernel) rfl rfl (fun _ _ => rfl) dX3_copyFrom_20 rfl fl_X3_15 (fun I20 e20 => ?_)
  refine v_aload_n 24 rfl dX3_copyFrom_23 rfl ?_
  refine v_aload_n 25 rfl dX3_copyFrom_24 rfl ?_
  refine v_get 28 (k := 2) 3 (.int (I20 5 2)) (by decide) rfl (by decide) (by decide) dX3_copyFrom_25 rfl fl_X3_19 rfl ?_
  refine v_putI 31 (k := 2) 3 .int (by decide) rfl (by decide) (by decide) rfl (by decide +kernel) rfl rfl (fun _ _ => rfl) dX3_copyFrom_28 rfl fl_X3_19 (fun I28 e28 => ?_)
  refine v_aload_n 32 rfl dX3_copyFrom_31 rfl ?_
  refine v_get 35 (k := 3) 3 (rfv x 7) (by decide) rfl (by decide) (by decide) dX3_copyFrom_32 rfl fl_X3_22 rfl ?_
  refine v_iconst 36 (nI (0)) (by decide) dX3_copyFrom_35 rfl ?_
  refine v_aload_n 37 rfl dX3_copyFrom_36 rfl ?_
  refine v_get 40 (k := 3) 3 (rfv x 3) (by decide) rfl (by decide) (by decide) dX3_copyFrom_37 rfl fl_X3_22 rfl ?_
  refine v_iconst 41 (nI (0)) (by decide) dX3_copyFrom_40 rfl ?_
  refine v_bipush 43 (nI (6)) (by decide) dX3_copyFrom_41 rfl ?_
  refine v_acopy 46 (sp := 0) (dp := 0) (n := 6) (by decide) (by decide) rfl rfl dX3_copyFrom_43 rfl ml_X3_28 ⟨by decide, Nat.le_of_ble_eq_true rfl⟩ rfl rfl rfl ⟨by decide, by decide⟩ (by omega) (by omega) (fun I43 e43 => ?_)
  refine v_aload_n 47 rfl dX3_copyFrom_46 rfl ?_
  refine v_get 50 (k := 4) 3 (rfv x 8) (by decide) rfl (by decide) (by decide) dX3_copyFrom_47 rfl fl_X3_25 rfl ?_
  refine v_iconst 51 (nI (0)) (by decide) dX3_copyFrom_50 rfl ?_
  refine v_aload_n 52 rfl dX3_copyFrom_51 rfl ?_
  refine v_get 55 (k := 4) 3 (rfv x 4) (by decide) rfl (by decide) (by decide) dX3_copyFrom_52 rfl fl_X3_25 rfl ?_
  refine v_iconst 56 (nI (0)) (by decide) dX3_copyFrom_55 rfl ?_
  refine v_bipush 58 (nI (42)) (by decide) dX3_copyFrom_56 rfl ?_
  refine v_acopy 61 (sp := 0) (dp := 0) (n := 42) (by decide) (by decide) rfl rfl dX3_copyFrom_58 rfl ml_X3_28 ⟨by decide, Nat.le_of_ble_eq_true rfl⟩ rfl rfl rfl ⟨by decide, by decide⟩ (by omega) (by omega) (fun I58 e58 => ?_)
  refine v_aload_n 62 rfl dX3_copyFrom_61 rfl ?_
  refine v_aload_n 63 rfl dX3_copyFrom_62 rfl ?_
  refine v_get 66 (k := 5) 3 (.int (I58 5 5)) (by decide) rfl (by decide) (by decide) dX3_copyFrom_63 rfl fl_X3_34 rfl ?_
  refine v_putI 69 (k := 5) 3 .int (by decide) rfl (by decide) (by decide) rfl (by decide +kernel) rfl rfl (fun _ _ => rfl) dX3_copyFrom_66 rfl fl_X3_34 (fun I66 e66 => ?_)
  refine v_vret rfl dX3_copyFrom_69 ?_
  refine hQ I66 (fun a ha => ?_) ⟨?_, ?_, ?_, fun j hj => ?_, fun j hj => ?_, fun j hj => ?_⟩
  · rw [up2_row e66 (by omega), cpy_row e58 (by omega), cpy_row e43 (by omega), up2_row e28 (by omega), up2_row e20 (by omega), cpy_row e12 (by omega)]
  · rw [up2_off e66 (by omega), cpy_row e58 (by decide), cpy_row e43 (by decide), up2_off e28 (by omega), up2_at e20, cpy_row e12 (by decide)]
  · rw [up2_off e66 (by omega), cpy_row e58 (by decide), cpy_row e43 (by decide), up2_at e28, up2_row e20 (by decide), cpy_row e12 (by decide)]
  · rw [up2_at e66, cpy_row e58 (by decide), cpy_row e43 (by decide), up2_row e28 (by decide), up2_row e20 (by decide), cpy_row e12 (by decide)]
  · rw [up2_row e66 (by decide), cpy_row e58 (by decide), cpy_row e43 (by decide), up2_row e28 (by decide), up2_row e20 (by decide), cpy_at e12 hj]
  · rw [up2_row e66 (by decide), cpy_row e58 (by decide), cpy_at e43 hj, up2_row e28 (by decide), up2_row e20 (by decide), cpy_row e12 (by decide)]
  · rw [up2_row e66 (by decide), cpy_at e58 hj, cpy_row e43 (by decide), up2_row e28 (by decide), up2_row e20 (by decide), cpy_row e12 (by decide)]
set_option maxHeartbeats 4000000 in
theorem sp_X3_copyFrom_11_1 {x : Cx} {Q : Qt} {I : Iv} {L : Lv} {P : Pv} (hQ : ∀ I1 : Iv, (∀ a, (a < 11 ∨ 14 < a) → I1 a = I a) → CPY 11 1 I I1 → Q none I1 L P) : SP x M_X3_copyFrom [rfv x 11, rfv x 1] I L P Q := by
  refine SP.intro [some (rfv x 11), some (rfv x 1)] pn_X3_copyFrom (Nat.le_of_ble_eq_true rfl) rfl ?_
  refine v_aload_n 1 rfl dX3_copyFrom_0 rfl ?_
  refine v_get 4 (k := 0) 3 (rfv x 2) (by decide) rfl (by decide) (by decide) dX3_copyFrom_1 rfl fl_X3_11 rfl ?_
  refine v_iconst 5 (nI (0)) (by decide) dX3_copyFrom_4 rfl ?_
  refine v_aload_n 6 rfl dX3_copyFrom_5 rfl ?_
  refine v_get 9 (k := 0) 3 (rfv x 12) (by decide) rfl (by decide) (by decide) dX3_copyFrom_6 rfl fl_X3_11 rfl ?_
  refine v_iconst 10 (nI (0)) (by decide) dX3_copyFrom_9 rfl ?_
  refine v_bipush 12 (nI (32)) (by decide) dX3_copyFrom_10 rfl ?_
  refine v_acopy 15 (sp := 0) (dp := 0) (n := 32) (by decide) (by decide) rfl rfl dX3_copyFrom_12 rfl ml_X3_28 ⟨by decide, Nat.le_of_ble_eq_true rfl⟩ rfl rfl rfl ⟨by decide, by decide⟩ (by omega) (by omega) (fun I12 e12 => ?_)
  refine v_aload_n 16 rfl dX3_copyFrom_15 rfl ?_
  refine v_aload_n 17 rfl dX3_copyFrom_16 rfl ?_
  refine v_get 20 (k := 1) 3 (.int (I12 1 1)) (by decide) rfl (by decide) (by decide) dX3_copyFrom_17 rfl fl_X3_15 rfl ?_
  refine v_putI 23 (k := 1) 3 .int (by decide) rfl (by decide) (by decide) rfl (by decide +kernel) rfl rfl (fun _ _ => rfl) dX3_copyFrom_20 rfl fl_X3_15 (fun I20 e20 => ?_)
  refine v_aload_n 24 rfl dX3_copyFrom_23 rfl ?_
  refine v_aload_n 25 rfl dX3_copyFrom_24 rfl ?_
  refine v_get 28 (k := 2) 3 (.int (I20 1 2)) (by decide) rfl (by decide) (by decide) dX3_copyFrom_25 rfl fl_X3_19 rfl ?_
  refine v_putI 31 (k := 2) 3 .int (by decide) rfl (by decide) (by decide) rfl (by decide +kernel) rfl rfl (fun _ _ => rfl) dX3_copyFrom_28 rfl fl_X3_19 (fun I28 e28 => ?_)
  refine v_aload_n 32 rfl dX3_copyFrom_31 rfl ?_
  refine v_get 35 (k := 3) 3 (rfv x 3) (by decide) rfl (by decide) (by decide) dX3_copyFrom_32 rfl fl_X3_22 rfl ?_
  refine v_iconst 36 (nI (0)) (by decide) dX3_copyFrom_35 rfl ?_
  refine v_aload_n 37 rfl dX3_copyFrom_36 rfl ?_
  refine v_get 40 (k := 3) 3 (rfv x 13) (by decide) rfl (by decide) (by decide) dX3_copyFrom_37 rfl fl_X3_22 rfl ?_
  refine v_iconst 41 (nI (0)) (by decide) dX3_copyFrom_40 rfl ?_
  refine v_bipush 43 (nI (6)) (by decide) dX3_copyFrom_41 rfl ?_
  refine v_acopy 46 (sp := 0) (dp := 0) (n := 6) (by decide) (by decide) rfl rfl dX3_copyFrom_43 rfl ml_X3_28 ⟨by decide, Nat.le_of_ble_eq_true rfl⟩ rfl rfl rfl ⟨by decide, by decide⟩ (by omega) (by omega) (fun I43 e43 => ?_)
  refine v_aload_n 47 rfl dX3_copyFrom_46 rfl ?_
  refine v_get 50 (k := 4) 3 (rfv x 4) (by decide) rfl (by decide) (by decide) dX3_copyFrom_47 rfl fl_X3_25 rfl ?_
  refine v_iconst 51 (nI (0)) (by decide) dX3_copyFrom_50 rfl ?_
  refine v_aload_n 52 rfl dX3_copyFrom_51 rfl ?_
  refine v_get 55 (k := 4) 3 (rfv x 14) (by decide) rfl (by decide) (by decide) dX3_copyFrom_52 rfl fl_X3_25 rfl ?_
  refine v_iconst 56 (nI (0)) (by decide) dX3_copyFrom_55 rfl ?_
  refine v_bipush 58 (nI (42)) (by decide) dX3_copyFrom_56 rfl ?_
  refine v_acopy 61 (sp := 0) (dp := 0) (n := 42) (by decide) (by decide) rfl rfl dX3_copyFrom_58 rfl ml_X3_28 ⟨by decide, Nat.le_of_ble_eq_true rfl⟩ rfl rfl rfl ⟨by decide, by decide⟩ (by omega) (by omega) (fun I58 e58 => ?_)
  refine v_aload_n 62 rfl dX3_copyFrom_61 rfl ?_
  refine v_aload_n 63 rfl dX3_copyFrom_62 rfl ?_
  refine v_get 66 (k := 5) 3 (.int (I58 1 5)) (by decide) rfl (by decide) (by decide) dX3_copyFrom_63 rfl fl_X3_34 rfl ?_
  refine v_putI 69 (k := 5) 3 .int (by decide) rfl (by decide) (by decide) rfl (by decide +kernel) rfl rfl (fun _ _ => rfl) dX3_copyFrom_66 rfl fl_X3_34 (fun I66 e66 => ?_)
  refine v_vret rfl dX3_copyFrom_69 ?_
  refine hQ I66 (fun a ha => ?_) ⟨?_, ?_, ?_, fun j hj => ?_, fun j hj => ?_, fun j hj => ?_⟩
  · rw [up2_row e66 (by omega), cpy_row e58 (by omega), cpy_row e43 (by omega), up2_row e28 (by omega), up2_row e20 (by omega), cpy_row e12 (by omega)]
  · rw [up2_off e66 (by omega), cpy_row e58 (by decide), cpy_row e43 (by decide), up2_off e28 (by omega), up2_at e20, cpy_row e12 (by decide)]
  · rw [up2_off e66 (by omega), cpy_row e58 (by decide), cpy_row e43 (by decide), up2_at e28, up2_row e20 (by decide), cpy_row e12 (by decide)]
  · rw [up2_at e66, cpy_row e58 (by decide), cpy_row e43 (by decide), up2_row e28 (by decide), up2_row e20 (by decide), cpy_row e12 (by decide)]
  · rw [up2_row e66 (by decide), cpy_row e58 (by decide), cpy_row e43 (by decide), up2_row e28 (by decide), up2_row e20 (by decide), cpy_at e12 hj]
  · rw [up2_row e66 (by decide), cpy_row e58 (by decide), cpy_at e43 hj, up2_row e28 (by decide), up2_row e20 (by decide), cpy_row e12 (by decide)]
  · rw [up2_row e66 (by decide), cpy_at e58 hj, cpy_row e43 (by decide), up2_row e28 (by decide), up2_row e20 (by decide), cpy_row e12 (by decide)]
set_option maxHeartbeats 4000000 in
theorem sp_X3_copyFrom_15_1 {x : Cx} {Q : Qt} {I : Iv} {L : Lv} {P : Pv} (hQ : ∀ I1 : Iv, (∀ a, (a < 15 ∨ 18 < a) → I1 a = I a) → CPY 15 1 I I1 → Q none I1 L P) : SP x M_X3_copyFrom [rfv x 15, rfv x 1] I L P Q := by
  refine SP.intro [some (rfv x 15), some (rfv x 1)] pn_X3_copyFrom (Nat.le_of_ble_eq_true rfl) rfl ?_
  refine v_aload_n 1 rfl dX3_copyFrom_0 rfl ?_
  refine v_get 4 (k := 0) 3 (rfv x 2) (by decide) rfl (by decide) (by decide) dX3_copyFrom_1 rfl fl_X3_11 rfl ?_
  refine v_iconst 5 (nI (0)) (by decide) dX3_copyFrom_4 rfl ?_
  refine v_aload_n 6 rfl dX3_copyFrom_5 rfl ?_
  refine v_get 9 (k := 0) 3 (rfv x 16) (by decide) rfl (by decide) (by decide) dX3_copyFrom_6 rfl fl_X3_11 rfl ?_
  refine v_iconst 10 (nI (0)) (by decide) dX3_copyFrom_9 rfl ?_
  refine v_bipush 12 (nI (32)) (by decide) dX3_copyFrom_10 rfl ?_
  refine v_acopy 15 (sp := 0) (dp := 0) (n := 32) (by decide) (by decide) rfl rfl dX3_copyFrom_12 rfl ml_X3_28 ⟨by decide, Nat.le_of_ble_eq_true rfl⟩ rfl rfl rfl ⟨by decide, by decide⟩ (by omega) (by omega) (fun I12 e12 => ?_)
  refine v_aload_n 16 rfl dX3_copyFrom_15 rfl ?_
  refine v_aload_n 17 rfl dX3_copyFrom_16 rfl ?_
  refine v_get 20 (k := 1) 3 (.int (I12 1 1)) (by decide) rfl (by decide) (by decide) dX3_copyFrom_17 rfl fl_X3_15 rfl ?_
  refine v_putI 23 (k := 1) 3 .int (by decide) rfl (by decide) (by decide) rfl (by decide +kernel) rfl rfl (fun _ _ => rfl) dX3_copyFrom_20 rfl fl_X3_15 (fun I20 e20 => ?_)
  refine v_aload_n 24 rfl dX3_copyFrom_23 rfl ?_
  refine v_aload_n 25 rfl dX3_copyFrom_24 rfl ?_
  refine v_get 28 (k := 2) 3 (.int (I20 1 2)) (by decide) rfl (by decide) (by decide) dX3_copyFrom_25 rfl fl_X3_19 rfl ?_
  refine v_putI 31 (k := 2) 3 .int (by decide) rfl (by decide) (by decide) rfl (by decide +kernel) rfl rfl (fun _ _ => rfl) dX3_copyFrom_28 rfl fl_X3_19 (fun I28 e28 => ?_)
  refine v_aload_n 32 rfl dX3_copyFrom_31 rfl ?_
  refine v_get 35 (k := 3) 3 (rfv x 3) (by decide) rfl (by decide) (by decide) dX3_copyFrom_32 rfl fl_X3_22 rfl ?_
  refine v_iconst 36 (nI (0)) (by decide) dX3_copyFrom_35 rfl ?_
  refine v_aload_n 37 rfl dX3_copyFrom_36 rfl ?_
  refine v_get 40 (k := 3) 3 (rfv x 17) (by decide) rfl (by decide) (by decide) dX3_copyFrom_37 rfl fl_X3_22 rfl ?_
  refine v_iconst 41 (nI (0)) (by decide) dX3_copyFrom_40 rfl ?_
  refine v_bipush 43 (nI (6)) (by decide) dX3_copyFrom_41 rfl ?_
  refine v_acopy 46 (sp := 0) (dp := 0) (n := 6) (by decide) (by decide) rfl rfl dX3_copyFrom_43 rfl ml_X3_28 ⟨by decide, Nat.le_of_ble_eq_true rfl⟩ rfl rfl rfl ⟨by decide, by decide⟩ (by omega) (by omega) (fun I43 e43 => ?_)
  refine v_aload_n 47 rfl dX3_copyFrom_46 rfl ?_
  refine v_get 50 (k := 4) 3 (rfv x 4) (by decide) rfl (by decide) (by decide) dX3_copyFrom_47 rfl fl_X3_25 rfl ?_
  refine v_iconst 51 (nI (0)) (by decide) dX3_copyFrom_50 rfl ?_
  refine v_aload_n 52 rfl dX3_copyFrom_51 rfl ?_
  refine v_get 55 (k := 4) 3 (rfv x 18) (by decide) rfl (by decide) (by decide) dX3_copyFrom_52 rfl fl_X3_25 rfl ?_
  refine v_iconst 56 (nI (0)) (by decide) dX3_copyFrom_55 rfl ?_
  refine v_bipush 58 (nI (42)) (by decide) dX3_copyFrom_56 rfl ?_
  refine v_acopy 61 (sp := 0) (dp := 0) (n := 42) (by decide) (by decide) rfl rfl dX3_copyFrom_58 rfl ml_X3_28 ⟨by decide, Nat.le_of_ble_eq_true rfl⟩ rfl rfl rfl ⟨by decide, by decide⟩ (by omega) (by omega) (fun I58 e58 => ?_)
  refine v_aload_n 62 rfl dX3_copyFrom_61 rfl ?_
  refine v_aload_n 63 rfl dX3_copyFrom_62 rfl ?_
  refine v_get 66 (k := 5) 3 (.int (I58 1 5)) (by decide) rfl (by decide) (by decide) dX3_copyFrom_63 rfl fl_X3_34 rfl ?_
  refine v_putI 69 (k := 5) 3 .int (by decide) rfl (by decide) (by decide) rfl (by decide +kernel) rfl rfl (fun _ _ => rfl) dX3_copyFrom_66 rfl fl_X3_34 (fun I66 e66 => ?_)
  refine v_vret rfl dX3_copyFrom_69 ?_
  refine hQ I66 (fun a ha => ?_) ⟨?_, ?_, ?_, fun j hj => ?_, fun j hj => ?_, fun j hj => ?_⟩
  · rw [up2_row e66 (by omega), cpy_row e58 (by omega), cpy_row e43 (by omega), up2_row e28 (by omega), up2_row e20 (by omega), cpy_row e12 (by omega)]
  · rw [up2_off e66 (by omega), cpy_row e58 (by decide), cpy_row e43 (by decide), up2_off e28 (by omega), up2_at e20, cpy_row e12 (by decide)]
  · rw [up2_off e66 (by omega), cpy_row e58 (by decide), cpy_row e43 (by decide), up2_at e28, up2_row e20 (by decide), cpy_row e12 (by decide)]
  · rw [up2_at e66, cpy_row e58 (by decide), cpy_row e43 (by decide), up2_row e28 (by decide), up2_row e20 (by decide), cpy_row e12 (by decide)]
  · rw [up2_row e66 (by decide), cpy_row e58 (by decide), cpy_row e43 (by decide), up2_row e28 (by decide), up2_row e20 (by decide), cpy_at e12 hj]
  · rw [up2_row e66 (by decide), cpy_row e58 (by decide), cpy_at e43 hj, up2_row e28 (by decide), up2_row e20 (by decide), cpy_row e12 (by decide)]
  · rw [up2_row e66 (by decide), cpy_at e58 hj, cpy_row e43 (by decide), up2_row e28 (by decide), up2_row e20 (by decide), cpy_row e12 (by decide)]
set_option maxHeartbeats 4000000 in
theorem sp_X3_copyFrom_19_1 {x : Cx} {Q : Qt} {I : Iv} {L : Lv} {P : Pv} (hQ : ∀ I1 : Iv, (∀ a, (a < 19 ∨ 22 < a) → I1 a = I a) → CPY 19 1 I I1 → Q none I1 L P) : SP x M_X3_copyFrom [rfv x 19, rfv x 1] I L P Q := by
  refine SP.intro [some (rfv x 19), some (rfv x 1)] pn_X3_copyFrom (Nat.le_of_ble_eq_true rfl) rfl ?_
  refine v_aload_n 1 rfl dX3_copyFrom_0 rfl ?_
  refine v_get 4 (k := 0) 3 (rfv x 2) (by decide) rfl (by decide) (by decide) dX3_copyFrom_1 rfl fl_X3_11 rfl ?_
  refine v_iconst 5 (nI (0)) (by decide) dX3_copyFrom_4 rfl ?_
  refine v_aload_n 6 rfl dX3_copyFrom_5 rfl ?_
  refine v_get 9 (k := 0) 3 (rfv x 20) (by decide) rfl (by decide) (by decide) dX3_copyFrom_6 rfl fl_X3_11 rfl ?_
  refine v_iconst 10 (nI (0)) (by decide) dX3_copyFrom_9 rfl ?_
  refine v_bipush 12 (nI (32)) (by decide) dX3_copyFrom_10 rfl ?_
  refine v_acopy 15 (sp := 0) (dp := 0) (n := 32) (by decide) (by decide) rfl rfl dX3_copyFrom_12 rfl ml_X3_28 ⟨by decide, Nat.le_of_ble_eq_true rfl⟩ rfl rfl rfl ⟨by decide, by decide⟩ (by omega) (by omega) (fun I12 e12 => ?_)
  refine v_aload_n 16 rfl dX3_copyFrom_15 rfl ?_
  refine v_aload_n 17 rfl dX3_copyFrom_16 rfl ?_
  refine v_get 20 (k := 1) 3 (.int (I12 1 1)) (by decide) rfl (by decide) (by decide) dX3_copyFrom_17 rfl fl_X3_15 rfl ?_
  refine v_putI 23 (k := 1) 3 .int (by decide) rfl (by decide) (by decide) rfl (by decide +kernel) rfl rfl (fun _ _ => rfl) dX3_copyFrom_20 rfl fl_X3_15 (fun I20 e20 => ?_)
  refine v_aload_n 24 rfl dX3_copyFrom_23 rfl ?_
  refine v_aload_n 25 rfl dX3_copyFrom_24 rfl ?_
  refine v_get 28 (k := 2) 3 (.int (I20 1 2)) (by decide) rfl (by decide) (by decide) dX3_copyFrom_25 rfl fl_X3_19 rfl ?_
  refine v_putI 31 (k := 2) 3 .int (by decide) rfl (by decide) (by decide) rfl (by decide +kernel) rfl rfl (fun _ _ => rfl) dX3_copyFrom_28 rfl fl_X3_19 (fun I28 e28 => ?_)
  refine v_aload_n 32 rfl dX3_copyFrom_31 rfl ?_
  refine v_get 35 (k := 3) 3 (rfv x 3) (by decide) rfl (by decide) (by decide) dX3_copyFrom_32 rfl fl_X3_22 rfl ?_
  refine v_iconst 36 (nI (0)) (by decide) dX3_copyFrom_35 rfl ?_
  refine v_aload_n 37 rfl dX3_copyFrom_36 rfl ?_
  refine v_get 40 (k := 3) 3 (rfv x 21) (by decide) rfl (by decide) (by decide) dX3_copyFrom_37 rfl fl_X3_22 rfl ?_
  refine v_iconst 41 (nI (0)) (by decide) dX3_copyFrom_40 rfl ?_
  refine v_bipush 43 (nI (6)) (by decide) dX3_copyFrom_41 rfl ?_
  refine v_acopy 46 (sp := 0) (dp := 0) (n := 6) (by decide) (by decide) rfl rfl dX3_copyFrom_43 rfl ml_X3_28 ⟨by decide, Nat.le_of_ble_eq_true rfl⟩ rfl rfl rfl ⟨by decide, by decide⟩ (by omega) (by omega) (fun I43 e43 => ?_)
  refine v_aload_n 47 rfl dX3_copyFrom_46 rfl ?_
  refine v_get 50 (k := 4) 3 (rfv x 4) (by decide) rfl (by decide) (by decide) dX3_copyFrom_47 rfl fl_X3_25 rfl ?_
  refine v_iconst 51 (nI (0)) (by decide) dX3_copyFrom_50 rfl ?_
  refine v_aload_n 52 rfl dX3_copyFrom_51 rfl ?_
  refine v_get 55 (k := 4) 3 (rfv x 22) (by decide) rfl (by decide) (by decide) dX3_copyFrom_52 rfl fl_X3_25 rfl ?_
  refine v_iconst 56 (nI (0)) (by decide) dX3_copyFrom_55 rfl ?_
  refine v_bipush 58 (nI (42)) (by decide) dX3_copyFrom_56 rfl ?_
  refine v_acopy 61 (sp := 0) (dp := 0) (n := 42) (by decide) (by decide) rfl rfl dX3_copyFrom_58 rfl ml_X3_28 ⟨by decide, Nat.le_of_ble_eq_true rfl⟩ rfl rfl rfl ⟨by decide, by decide⟩ (by omega) (by omega) (fun I58 e58 => ?_)
  refine v_aload_n 62 rfl dX3_copyFrom_61 rfl ?_
  refine v_aload_n 63 rfl dX3_copyFrom_62 rfl ?_
  refine v_get 66 (k := 5) 3 (.int (I58 1 5)) (by decide) rfl (by decide) (by decide) dX3_copyFrom_63 rfl fl_X3_34 rfl ?_
  refine v_putI 69 (k := 5) 3 .int (by decide) rfl (by decide) (by decide) rfl (by decide +kernel) rfl rfl (fun _ _ => rfl) dX3_copyFrom_66 rfl fl_X3_34 (fun I66 e66 => ?_)
  refine v_vret rfl dX3_copyFrom_69 ?_
  refine hQ I66 (fun a ha => ?_) ⟨?_, ?_, ?_, fun j hj => ?_, fun j hj => ?_, fun j hj => ?_⟩
  · rw [up2_row e66 (by omega), cpy_row e58 (by omega), cpy_row e43 (by omega), up2_row e28 (by omega), up2_row e20 (by omega), cpy_row e12 (by omega)]
  · rw [up2_off e66 (by omega), cpy_row e58 (by decide), cpy_row e43 (by decide), up2_off e28 (by omega), up2_at e20, cpy_row e12 (by decide)]
  · rw [up2_off e66 (by omega), cpy_row e58 (by decide), cpy_row e43 (by decide), up2_at e28, up2_row e20 (by decide), cpy_row e12 (by decide)]
  · rw [up2_at e66, cpy_row e58 (by decide), cpy_row e43 (by decide), up2_row e28 (by decide), up2_row e20 (by decide), cpy_row e12 (by decide)]
  · rw [up2_row e66 (by decide), cpy_row e58 (by decide), cpy_row e43 (by decide), up2_row e28 (by decide), up2_row e20 (by decide), cpy_at e12 hj]
  · rw [up2_row e66 (by decide), cpy_row e58 (by decide), cpy_at e43 hj, up2_row e28 (by decide), up2_row e20 (by decide), cpy_row e12 (by decide)]
  · rw [up2_row e66 (by decide), cpy_at e58 hj, cpy_row e43 (by decide), up2_row e28 (by decide), up2_row e20 (by decide), cpy_row e12 (by decide)]
set_option maxHeartbeats 4000000 in
theorem sp_X3_copyFrom_23_1 {x : Cx} {Q : Qt} {I : Iv} {L : Lv} {P : Pv} (hQ : ∀ I1 : Iv, (∀ a, (a < 23 ∨ 26 < a) → I1 a = I a) → CPY 23 1 I I1 → Q none I1 L P) : SP x M_X3_copyFrom [rfv x 23, rfv x 1] I L P Q := by
  refine SP.intro [some (rfv x 23), some (rfv x 1)] pn_X3_copyFrom (Nat.le_of_ble_eq_true rfl) rfl ?_
  refine v_aload_n 1 rfl dX3_copyFrom_0 rfl ?_
  refine v_get 4 (k := 0) 3 (rfv x 2) (by decide) rfl (by decide) (by decide) dX3_copyFrom_1 rfl fl_X3_11 rfl ?_
  refine v_iconst 5 (nI (0)) (by decide) dX3_copyFrom_4 rfl ?_
  refine v_aload_n 6 rfl dX3_copyFrom_5 rfl ?_
  refine v_get 9 (k := 0) 3 (rfv x 24) (by decide) rfl (by decide) (by decide) dX3_copyFrom_6 rfl fl_X3_11 rfl ?_
  refine v_iconst 10 (nI (0)) (by decide) dX3_copyFrom_9 rfl ?_
  refine v_bipush 12 (nI (32)) (by decide) dX3_copyFrom_10 rfl ?_
  refine v_acopy 15 (sp := 0) (dp := 0) (n := 32) (by decide) (by decide) rfl rfl dX3_copyFrom_12 rfl ml_X3_28 ⟨by decide, Nat.le_of_ble_eq_true rfl⟩ rfl rfl rfl ⟨by decide, by decide⟩ (by omega) (by omega) (fun I12 e12 => ?_)
  refine v_aload_n 16 rfl dX3_copyFrom_15 rfl ?_
  refine v_aload_n 17 rfl dX3_copyFrom_16 rfl ?_
  refine v_get 20 (k := 1) 3 (.int (I12 1 1)) (by decide) rfl (by decide) (by decide) dX3_copyFrom_17 rfl fl_X3_15 rfl ?_
  refine v_putI 23 (k := 1) 3 .int (by decide) rfl (by decide) (by decide) rfl (by decide +kernel) rfl rfl (fun _ _ => rfl) dX3_copyFrom_20 rfl fl_X3_15 (fun I20 e20 => ?_)
  refine v_aload_n 24 rfl dX3_copyFrom_23 rfl ?_
  refine v_aload_n 25 rfl dX3_copyFrom_24 rfl ?_
  refine v_get 28 (k := 2) 3 (.int (I20 1 2)) (by decide) rfl (by decide) (by decide) dX3_copyFrom_25 rfl fl_X3_19 rfl ?_
  refine v_putI 31 (k := 2) 3 .int (by decide) rfl (by decide) (by decide) rfl (by decide +kernel) rfl rfl (fun _ _ => rfl) dX3_copyFrom_28 rfl fl_X3_19 (fun I28 e28 => ?_)
  refine v_aload_n 32 rfl dX3_copyFrom_31 rfl ?_
  refine v_get 35 (k := 3) 3 (rfv x 3) (by decide) rfl (by decide) (by decide) dX3_copyFrom_32 rfl fl_X3_22 rfl ?_
  refine v_iconst 36 (nI (0)) (by decide) dX3_copyFrom_35 rfl ?_
  refine v_aload_n 37 rfl dX3_copyFrom_36 rfl ?_
  refine v_get 40 (k := 3) 3 (rfv x 25) (by decide) rfl (by decide) (by decide) dX3_copyFrom_37 rfl fl_X3_22 rfl ?_
  refine v_iconst 41 (nI (0)) (by decide) dX3_copyFrom_40 rfl ?_
  refine v_bipush 43 (nI (6)) (by decide) dX3_copyFrom_41 rfl ?_
  refine v_acopy 46 (sp := 0) (dp := 0) (n := 6) (by decide) (by decide) rfl rfl dX3_copyFrom_43 rfl ml_X3_28 ⟨by decide, Nat.le_of_ble_eq_true rfl⟩ rfl rfl rfl ⟨by decide, by decide⟩ (by omega) (by omega) (fun I43 e43 => ?_)
  refine v_aload_n 47 rfl dX3_copyFrom_46 rfl ?_
  refine v_get 50 (k := 4) 3 (rfv x 4) (by decide) rfl (by decide) (by decide) dX3_copyFrom_47 rfl fl_X3_25 rfl ?_
  refine v_iconst 51 (nI (0)) (by decide) dX3_copyFrom_50 rfl ?_
  refine v_aload_n 52 rfl dX3_copyFrom_51 rfl ?_
  refine v_get 55 (k := 4) 3 (rfv x 26) (by decide) rfl (by decide) (by decide) dX3_copyFrom_52 rfl fl_X3_25 rfl ?_
  refine v_iconst 56 (nI (0)) (by decide) dX3_copyFrom_55 rfl ?_
  refine v_bipush 58 (nI (42)) (by decide) dX3_copyFrom_56 rfl ?_
  refine v_acopy 61 (sp := 0) (dp := 0) (n := 42) (by decide) (by decide) rfl rfl dX3_copyFrom_58 rfl ml_X3_28 ⟨by decide, Nat.le_of_ble_eq_true rfl⟩ rfl rfl rfl ⟨by decide, by decide⟩ (by omega) (by omega) (fun I58 e58 => ?_)
  refine v_aload_n 62 rfl dX3_copyFrom_61 rfl ?_
  refine v_aload_n 63 rfl dX3_copyFrom_62 rfl ?_
  refine v_get 66 (k := 5) 3 (.int (I58 1 5)) (by decide) rfl (by decide) (by decide) dX3_copyFrom_63 rfl fl_X3_34 rfl ?_
  refine v_putI 69 (k := 5) 3 .int (by decide) rfl (by decide) (by decide) rfl (by decide +kernel) rfl rfl (fun _ _ => rfl) dX3_copyFrom_66 rfl fl_X3_34 (fun I66 e66 => ?_)
  refine v_vret rfl dX3_copyFrom_69 ?_
  refine hQ I66 (fun a ha => ?_) ⟨?_, ?_, ?_, fun j hj => ?_, fun j hj => ?_, fun j hj => ?_⟩
  · rw [up2_row e66 (by omega), cpy_row e58 (by omega), cpy_row e43 (by omega), up2_row e28 (by omega), up2_row e20 (by omega), cpy_row e12 (by omega)]
  · rw [up2_off e66 (by omega), cpy_row e58 (by decide), cpy_row e43 (by decide), up2_off e28 (by omega), up2_at e20, cpy_row e12 (by decide)]
  · rw [up2_off e66 (by omega), cpy_row e58 (by decide), cpy_row e43 (by decide), up2_at e28, up2_row e20 (by decide), cpy_row e12 (by decide)]
  · rw [up2_at e66, cpy_row e58 (by decide), cpy_row e43 (by decide), up2_row e28 (by decide), up2_row e20 (by decide), cpy_row e12 (by decide)]
  · rw [up2_row e66 (by decide), cpy_row e58 (by decide), cpy_row e43 (by decide), up2_row e28 (by decide), up2_row e20 (by decide), cpy_at e12 hj]
  · rw [up2_row e66 (by decide), cpy_row e58 (by decide), cpy_at e43 hj, up2_row e28 (by decide), up2_row e20 (by decide), cpy_row e12 (by decide)]
  · rw [up2_row e66 (by decide), cpy_at e58 hj, cpy_row e43 (by decide), up2_row e28 (by decide), up2_row e20 (by decide), cpy_row e12 (by decide)]
set_option maxHeartbeats 4000000 in
theorem sp_X3_copyFrom_1_11 {x : Cx} {Q : Qt} {I : Iv} {L : Lv} {P : Pv} (hQ : ∀ I1 : Iv, (∀ a, (a < 1 ∨ 4 < a) → I1 a = I a) → CPY 1 11 I I1 → Q none I1 L P) : SP x M_X3_copyFrom [rfv x 1, rfv x 11] I L P Q := by
  refine SP.intro [some (rfv x 1), some (rfv x 11)] pn_X3_copyFrom (Nat.le_of_ble_eq_true rfl) rfl ?_
  refine v_aload_n 1 rfl dX3_copyFrom_0 rfl ?_
  refine v_get 4 (k := 0) 3 (rfv x 12) (by decide) rfl (by decide) (by decide) dX3_copyFrom_1 rfl fl_X3_11 rfl ?_
  refine v_iconst 5 (nI (0)) (by decide) dX3_copyFrom_4 rfl ?_
  refine v_aload_n 6 rfl dX3_copyFrom_5 rfl ?_
  refine v_get 9 (k := 0) 3 (rfv x 2) (by decide) rfl (by decide) (by decide) dX3_copyFrom_6 rfl fl_X3_11 rfl ?_
  refine v_iconst 10 (nI (0)) (by decide) dX3_copyFrom_9 rfl ?_
  refine v_bipush 12 (nI (32)) (by decide) dX3_copyFrom_10 rfl ?_
  refine v_acopy 15 (sp := 0) (dp := 0) (n := 32) (by decide) (by decide) rfl rfl dX3_copyFrom_12 rfl ml_X3_28 ⟨by decide, Nat.le_of_ble_eq_true rfl⟩ rfl rfl rfl ⟨by decide, by decide⟩ (by omega) (by omega) (fun I12 e12 => ?_)
  refine v_aload_n 16 rfl dX3_copyFrom_15 rfl ?_
  refine v_aload_n 17 rfl dX3_copyFrom_16 rfl ?_
  refine v_get 20 (k := 1) 3 (.int (I12 11 1)) (by decide) rfl (by decide) (by decide) dX3_copyFrom_17 rfl fl_X3_15 rfl ?_
  refine v_putI 23 (k := 1) 3 .int (by decide) rfl (by decide) (by decide) rfl (by decide +kernel) rfl rfl (fun _ _ => rfl) dX3_copyFrom_20 rfl fl_X3_15 (fun I20 e20 => ?_)
  refine v_aload_n 24 rfl dX3_copyFrom_23 rfl ?_
  refine v_aload_n 25 rfl dX3_copyFrom_24 rfl ?_
  refine v_get 28 (k := 2) 3 (.int (I20 11 2)) (by decide) rfl (by decide) (by decide) dX3_copyFrom_25 rfl fl_X3_19 rfl ?_
  refine v_putI 31 (k := 2) 3 .int (by decide) rfl (by decide) (by decide) rfl (by decide +kernel) rfl rfl (fun _ _ => rfl) dX3_copyFrom_28 rfl fl_X3_19 (fun I28 e28 => ?_)
  refine v_aload_n 32 rfl dX3_copyFrom_31 rfl ?_
  refine v_get 35 (k := 3) 3 (rfv x 13) (by decide) rfl (by decide) (by decide) dX3_copyFrom_32 rfl fl_X3_22 rfl ?_
  refine v_iconst 36 (nI (0)) (by decide) dX3_copyFrom_35 rfl ?_
  refine v_aload_n 37 rfl dX3_copyFrom_36 rfl ?_
  refine v_get 40 (k := 3) 3 (rfv x 3) (by decide) rfl (by decide) (by decide) dX3_copyFrom_37 rfl fl_X3_22 rfl ?_
  refine v_iconst 41 (nI (0)) (by decide) dX3_copyFrom_40 rfl ?_
  refine v_bipush 43 (nI (6)) (by decide) dX3_copyFrom_41 rfl ?_
  refine v_acopy 46 (sp := 0) (dp := 0) (n := 6) (by decide) (by decide) rfl rfl dX3_copyFrom_43 rfl ml_X3_28 ⟨by decide, Nat.le_of_ble_eq_true rfl⟩ rfl rfl rfl ⟨by decide, by decide⟩ (by omega) (by omega) (fun I43 e43 => ?_)
  refine v_aload_n 47 rfl dX3_copyFrom_46 rfl ?_
  refine v_get 50 (k := 4) 3 (rfv x 14) (by decide) rfl (by decide) (by decide) dX3_copyFrom_47 rfl fl_X3_25 rfl ?_
  refine v_iconst 51 (nI (0)) (by decide) dX3_copyFrom_50 rfl ?_
  refine v_aload_n 52 rfl dX3_copyFrom_51 rfl ?_
  refine v_get 55 (k := 4) 3 (rfv x 4) (by decide) rfl (by decide) (by decide) dX3_copyFrom_52 rfl fl_X3_25 rfl ?_
  refine v_iconst 56 (nI (0)) (by decide) dX3_copyFrom_55 rfl ?_
  refine v_bipush 58 (nI (42)) (by decide) dX3_copyFrom_56 rfl ?_
  refine v_acopy 61 (sp := 0) (dp := 0) (n := 42) (by decide) (by decide) rfl rfl dX3_copyFrom_58 rfl ml_X3_28 ⟨by decide, Nat.le_of_ble_eq_true rfl⟩ rfl rfl rfl ⟨by decide, by decide⟩ (by omega) (by omega) (fun I58 e58 => ?_)
  refine v_aload_n 62 rfl dX3_copyFrom_61 rfl ?_
  refine v_aload_n 63 rfl dX3_copyFrom_62 rfl ?_
  refine v_get 66 (k := 5) 3 (.int (I58 11 5)) (by decide) rfl (by decide) (by decide) dX3_copyFrom_63 rfl fl_X3_34 rfl ?_
  refine v_putI 69 (k := 5) 3 .int (by decide) rfl (by decide) (by decide) rfl (by decide +kernel) rfl rfl (fun _ _ => rfl) dX3_copyFrom_66 rfl fl_X3_34 (fun I66 e66 => ?_)
  refine v_vret rfl dX3_copyFrom_69 ?_
  refine hQ I66 (fun a ha => ?_) ⟨?_, ?_, ?_, fun j hj => ?_, fun j hj => ?_, fun j hj => ?_⟩
  · rw [up2_row e66 (by omega), cpy_row e58 (by omega), cpy_row e43 (by omega), up2_row e28 (by omega), up2_row e20 (by omega), cpy_row e12 (by omega)]
  · rw [up2_off e66 (by omega), cpy_row e58 (by decide), cpy_row e43 (by decide), up2_off e28 (by omega), up2_at e20, cpy_row e12 (by decide)]
  · rw [up2_off e66 (by omega), cpy_row e58 (by decide), cpy_row e43 (by decide), up2_at e28, up2_row e20 (by decide), cpy_row e12 (by decide)]
  · rw [up2_at e66, cpy_row e58 (by decide), cpy_row e43 (by decide), up2_row e28 (by decide), up2_row e20 (by decide), cpy_row e12 (by decide)]
  · rw [up2_row e66 (by decide), cpy_row e58 (by decide), cpy_row e43 (by decide), up2_row e28 (by decide), up2_row e20 (by decide), cpy_at e12 hj]
  · rw [up2_row e66 (by decide), cpy_row e58 (by decide), cpy_at e43 hj, up2_row e28 (by decide), up2_row e20 (by decide), cpy_row e12 (by decide)]
  · rw [up2_row e66 (by decide), cpy_at e58 hj, cpy_row e43 (by decide), up2_row e28 (by decide), up2_row e20 (by decide), cpy_row e12 (by decide)]
set_option maxHeartbeats 4000000 in
theorem sp_X3_copyFrom_1_15 {x : Cx} {Q : Qt} {I : Iv} {L : Lv} {P : Pv} (hQ : ∀ I1 : Iv, (∀ a, (a < 1 ∨ 4 < a) → I1 a = I a) → CPY 1 15 I I1 → Q none I1 L P) : SP x M_X3_copyFrom [rfv x 1, rfv x 15] I L P Q := by
  refine SP.intro [some (rfv x 1), some (rfv x 15)] pn_X3_copyFrom (Nat.le_of_ble_eq_true rfl) rfl ?_
  refine v_aload_n 1 rfl dX3_copyFrom_0 rfl ?_
  refine v_get 4 (k := 0) 3 (rfv x 16) (by decide) rfl (by decide) (by decide) dX3_copyFrom_1 rfl fl_X3_11 rfl ?_
  refine v_iconst 5 (nI (0)) (by decide) dX3_copyFrom_4 rfl ?_
  refine v_aload_n 6 rfl dX3_copyFrom_5 rfl ?_
  refine v_get 9 (k := 0) 3 (rfv x 2) (by decide) rfl (by decide) (by decide) dX3_copyFrom_6 rfl fl_X3_11 rfl ?_
  refine v_iconst 10 (nI (0)) (by decide) dX3_copyFrom_9 rfl ?_
  refine v_bipush 12 (nI (32)) (by decide) dX3_copyFrom_10 rfl ?_
  refine v_acopy 15 (sp := 0) (dp := 0) (n := 32) (by decide) (by decide) rfl rfl dX3_copyFrom_12 rfl ml_X3_28 ⟨by decide, Nat.le_of_ble_eq_true rfl⟩ rfl rfl rfl ⟨by decide, by decide⟩ (by omega) (by omega) (fun I12 e12 => ?_)
  refine v_aload_n 16 rfl dX3_copyFrom_15 rfl ?_
  refine v_aload_n 17 rfl dX3_copyFrom_16 rfl ?_
  refine v_get 20 (k := 1) 3 (.int (I12 15 1)) (by decide) rfl (by decide) (by decide) dX3_copyFrom_17 rfl fl_X3_15 rfl ?_
  refine v_putI 23 (k := 1) 3 .int (by decide) rfl (by decide) (by decide) rfl (by decide +kernel) rfl rfl (fun _ _ => rfl) dX3_copyFrom_20 rfl fl_X3_15 (fun I20 e20 => ?_)
  refine v_aload_n 24 rfl dX3_copyFrom_23 rfl ?_
  refine v_aload_n 25 rfl dX3_copyFrom_24 rfl ?_
  refine v_get 28 (k := 2) 3 (.int (I20 15 2)) (by decide) rfl (by decide) (by decide) dX3_copyFrom_25 rfl fl_X3_19 rfl ?_
  refine v_putI 31 (k := 2) 3 .int (by decide) rfl (by decide) (by decide) rfl (by decide +kernel) rfl rfl (fun _ _ => rfl) dX3_copyFrom_28 rfl fl_X3_19 (fun I28 e28 => ?_)
  refine v_aload_n 32 rfl dX3_copyFrom_31 rfl ?_
  refine v_get 35 (k := 3) 3 (rfv x 17) (by decide) rfl (by decide) (by decide) dX3_copyFrom_32 rfl fl_X3_22 rfl ?_
  refine v_iconst 36 (nI (0)) (by decide) dX3_copyFrom_35 rfl ?_
  refine v_aload_n 37 rfl dX3_copyFrom_36 rfl ?_
  refine v_get 40 (k := 3) 3 (rfv x 3) (by decide) rfl (by decide) (by decide) dX3_copyFrom_37 rfl fl_X3_22 rfl ?_
  refine v_iconst 41 (nI (0)) (by decide) dX3_copyFrom_40 rfl ?_
  refine v_bipush 43 (nI (6)) (by decide) dX3_copyFrom_41 rfl ?_
  refine v_acopy 46 (sp := 0) (dp := 0) (n := 6) (by decide) (by decide) rfl rfl dX3_copyFrom_43 rfl ml_X3_28 ⟨by decide, Nat.le_of_ble_eq_true rfl⟩ rfl rfl rfl ⟨by decide, by decide⟩ (by omega) (by omega) (fun I43 e43 => ?_)
  refine v_aload_n 47 rfl dX3_copyFrom_46 rfl ?_
  refine v_get 50 (k := 4) 3 (rfv x 18) (by decide) rfl (by decide) (by decide) dX3_copyFrom_47 rfl fl_X3_25 rfl ?_
  refine v_iconst 51 (nI (0)) (by decide) dX3_copyFrom_50 rfl ?_
  refine v_aload_n 52 rfl dX3_copyFrom_51 rfl ?_
  refine v_get 55 (k := 4) 3 (rfv x 4) (by decide) rfl (by decide) (by decide) dX3_copyFrom_52 rfl fl_X3_25 rfl ?_
  refine v_iconst 56 (nI (0)) (by decide) dX3_copyFrom_55 rfl ?_
  refine v_bipush 58 (nI (42)) (by decide) dX3_copyFrom_56 rfl ?_
  refine v_acopy 61 (sp := 0) (dp := 0) (n := 42) (by decide) (by decide) rfl rfl dX3_copyFrom_58 rfl ml_X3_28 ⟨by decide, Nat.le_of_ble_eq_true rfl⟩ rfl rfl rfl ⟨by decide, by decide⟩ (by omega) (by omega) (fun I58 e58 => ?_)
  refine v_aload_n 62 rfl dX3_copyFrom_61 rfl ?_
  refine v_aload_n 63 rfl dX3_copyFrom_62 rfl ?_
  refine v_get 66 (k := 5) 3 (.int (I58 15 5)) (by decide) rfl (by decide) (by decide) dX3_copyFrom_63 rfl fl_X3_34 rfl ?_
  refine v_putI 69 (k := 5) 3 .int (by decide) rfl (by decide) (by decide) rfl (by decide +kernel) rfl rfl (fun _ _ => rfl) dX3_copyFrom_66 rfl fl_X3_34 (fun I66 e66 => ?_)
  refine v_vret rfl dX3_copyFrom_69 ?_
  refine hQ I66 (fun a ha => ?_) ⟨?_, ?_, ?_, fun j hj => ?_, fun j hj => ?_, fun j hj => ?_⟩
  · rw [up2_row e66 (by omega), cpy_row e58 (by omega), cpy_row e43 (by omega), up2_row e28 (by omega), up2_row e20 (by omega), cpy_row e12 (by omega)]
  · rw [up2_off e66 (by omega), cpy_row e58 (by decide), cpy_row e43 (by decide), up2_off e28 (by omega), up2_at e20, cpy_row e12 (by decide)]
  · rw [up2_off e66 (by omega), cpy_row e58 (by decide), cpy_row e43 (by decide), up2_at e28, up2_row e20 (by decide), cpy_row e12 (by decide)]
  · rw [up2_at e66, cpy_row e58 (by decide), cpy_row e43 (by decide), up2_row e28 (by decide), up2_row e20 (by decide), cpy_row e12 (by decide)]
  · rw [up2_row e66 (by decide), cpy_row e58 (by decide), cpy_row e43 (by decide), up2_row e28 (by decide), up2_row e20 (by decide), cpy_at e12 hj]
  · rw [up2_row e66 (by decide), cpy_row e58 (by decide), cpy_at e43 hj, up2_row e28 (by decide), up2_row e20 (by decide), cpy_row e12 (by decide)]
  · rw [up2_row e66 (by decide), cpy_at e58 hj, cpy_row e43 (by decide), up2_row e28 (by decide), up2_row e20 (by decide), cpy_row e12 (by decide)]
set_option maxHeartbeats 4000000 in
theorem sp_X3_copyFrom_1_19 {x : Cx} {Q : Qt} {I : Iv} {L : Lv} {P : Pv} (hQ : ∀ I1 : Iv, (∀ a, (a < 1 ∨ 4 < a) → I1 a = I a) → CPY 1 19 I I1 → Q none I1 L P) : SP x M_X3_copyFrom [rfv x 1, rfv x 19] I L P Q := by
  refine SP.intro [some (rfv x 1), some (rfv x 19)] pn_X3_copyFrom (Nat.le_of_ble_eq_true rfl) rfl ?_
  refine v_aload_n 1 rfl dX3_copyFrom_0 rfl ?_
  refine v_get 4 (k := 0) 3 (rfv x 20) (by decide) rfl (by decide) (by decide) dX3_copyFrom_1 rfl fl_X3_11 rfl ?_
  refine v_iconst 5 (nI (0)) (by decide) dX3_copyFrom_4 rfl ?_
  refine v_aload_n 6 rfl dX3_copyFrom_5 rfl ?_
  refine v_get 9 (k := 0) 3 (rfv x 2) (by decide) rfl (by decide) (by decide) dX3_copyFrom_6 rfl fl_X3_11 rfl ?_
  refine v_iconst 10 (nI (0)) (by decide) dX3_copyFrom_9 rfl ?_
  refine v_bipush 12 (nI (32)) (by decide) dX3_copyFrom_10 rfl ?_
  refine v_acopy 15 (sp := 0) (dp := 0) (n := 32) (by decide) (by decide) rfl rfl dX3_copyFrom_12 rfl ml_X3_28 ⟨by decide, Nat.le_of_ble_eq_true rfl⟩ rfl rfl rfl ⟨by decide, by decide⟩ (by omega) (by omega) (fun I12 e12 => ?_)
  refine v_aload_n 16 rfl dX3_copyFrom_15 rfl ?_
  refine v_aload_n 17 rfl dX3_copyFrom_16 rfl ?_
  refine v_get 20 (k := 1) 3 (.int (I12 19 1)) (by decide) rfl (by decide) (by decide) dX3_copyFrom_17 rfl fl_X3_15 rfl ?_
  refine v_putI 23 (k := 1) 3 .int (by decide) rfl (by decide) (by decide) rfl (by decide +kernel) rfl rfl (fun _ _ => rfl) dX3_copyFrom_20 rfl fl_X3_15 (fun I20 e20 => ?_)
  refine v_aload_n 24 rfl dX3_copyFrom_23 rfl ?_
  refine v_aload_n 25 rfl dX3_copyFrom_24 rfl ?_
  refine v_get 28 (k := 2) 3 (.int (I20 19 2)) (by decide) rfl (by decide) (by decide) dX3_copyFrom_25 rfl fl_X3_19 rfl ?_
  refine v_putI 31 (k := 2) 3 .int (by decide) rfl (by decide) (by decide) rfl (by decide +kernel) rfl rfl (fun _ _ => rfl) dX3_copyFrom_28 rfl fl_X3_19 (fun I28 e28 => ?_)
  refine v_aload_n 32 rfl dX3_copyFrom_31 rfl ?_
  refine v_get 35 (k := 3) 3 (rfv x 21) (by decide) rfl (by decide) (by decide) dX3_copyFrom_32 rfl fl_X3_22 rfl ?_
  refine v_iconst 36 (nI (0)) (by decide) dX3_copyFrom_35 rfl ?_
  refine v_aload_n 37 rfl dX3_copyFrom_36 rfl ?_
  refine v_get 40 (k := 3) 3 (rfv x 3) (by decide) rfl (by decide) (by decide) dX3_copyFrom_37 rfl fl_X3_22 rfl ?_
  refine v_iconst 41 (nI (0)) (by decide) dX3_copyFrom_40 rfl ?_
  refine v_bipush 43 (nI (6)) (by decide) dX3_copyFrom_41 rfl ?_
  refine v_acopy 46 (sp := 0) (dp := 0) (n := 6) (by decide) (by decide) rfl rfl dX3_copyFrom_43 rfl ml_X3_28 ⟨by decide, Nat.le_of_ble_eq_true rfl⟩ rfl rfl rfl ⟨by decide, by decide⟩ (by omega) (by omega) (fun I43 e43 => ?_)
  refine v_aload_n 47 rfl dX3_copyFrom_46 rfl ?_
  refine v_get 50 (k := 4) 3 (rfv x 22) (by decide) rfl (by decide) (by decide) dX3_copyFrom_47 rfl fl_X3_25 rfl ?_
  refine v_iconst 51 (nI (0)) (by decide) dX3_copyFrom_50 rfl ?_
  refine v_aload_n 52 rfl dX3_copyFrom_51 rfl ?_
  refine v_get 55 (k := 4) 3 (rfv x 4) (by decide) rfl (by decide) (by decide) dX3_copyFrom_52 rfl fl_X3_25 rfl ?_
  refine v_iconst 56 (nI (0)) (by decide) dX3_copyFrom_55 rfl ?_
  refine v_bipush 58 (nI (42)) (by decide) dX3_copyFrom_56 rfl ?_
  refine v_acopy 61 (sp := 0) (dp := 0) (n := 42) (by decide) (by decide) rfl rfl dX3_copyFrom_58 rfl ml_X3_28 ⟨by decide, Nat.le_of_ble_eq_true rfl⟩ rfl rfl rfl ⟨by decide, by decide⟩ (by omega) (by omega) (fun I58 e58 => ?_)
  refine v_aload_n 62 rfl dX3_copyFrom_61 rfl ?_
  refine v_aload_n 63 rfl dX3_copyFrom_62 rfl ?_
  refine v_get 66 (k := 5) 3 (.int (I58 19 5)) (by decide) rfl (by decide) (by decide) dX3_copyFrom_63 rfl fl_X3_34 rfl ?_
  refine v_putI 69 (k := 5) 3 .int (by decide) rfl (by decide) (by decide) rfl (by decide +kernel) rfl rfl (fun _ _ => rfl) dX3_copyFrom_66 rfl fl_X3_34 (fun I66 e66 => ?_)
  refine v_vret rfl dX3_copyFrom_69 ?_
  refine hQ I66 (fun a ha => ?_) ⟨?_, ?_, ?_, fun j hj => ?_, fun j hj => ?_, fun j hj => ?_⟩
  · rw [up2_row e66 (by omega), cpy_row e58 (by omega), cpy_row e43 (by omega), up2_row e28 (by omega), up2_row e20 (by omega), cpy_row e12 (by omega)]
  · rw [up2_off e66 (by omega), cpy_row e58 (by decide), cpy_row e43 (by decide), up2_off e28 (by omega), up2_at e20, cpy_row e12 (by decide)]
  · rw [up2_off e66 (by omega), cpy_row e58 (by decide), cpy_row e43 (by decide), up2_at e28, up2_row e20 (by decide), cpy_row e12 (by decide)]
  · rw [up2_at e66, cpy_row e58 (by decide), cpy_row e43 (by decide), up2_row e28 (by decide), up2_row e20 (by decide), cpy_row e12 (by decide)]
  · rw [up2_row e66 (by decide), cpy_row e58 (by decide), cpy_row e43 (by decide), up2_row e28 (by decide), up2_row e20 (by decide), cpy_at e12 hj]
  · rw [up2_row e66 (by decide), cpy_row e58 (by decide), cpy_at e43 hj, up2_row e28 (by decide), up2_row e20 (by decide), cpy_row e12 (by decide)]
  · rw [up2_row e66 (by decide), cpy_at e58 hj, cpy_row e43 (by decide), up2_row e28 (by decide), up2_row e20 (by decide), cpy_row e12 (by decide)]
set_option maxHeartbeats 4000000 in
theorem sp_X3_copyFrom_1_23 {x : Cx} {Q : Qt} {I : Iv} {L : Lv} {P : Pv} (hQ : ∀ I1 : Iv, (∀ a, (a < 1 ∨ 4 < a) → I1 a = I a) → CPY 1 23 I I1 → Q none I1 L P) : SP x M_X3_copyFrom [rfv x 1, rfv x 23] I L P Q := by
  refine SP.intro [some (rfv x 1), some (rfv x 23)] pn_X3_copyFrom (Nat.le_of_ble_eq_true rfl) rfl ?_
  refine v_aload_n 1 rfl dX3_copyFrom_0 rfl ?_
  refine v_get 4 (k := 0) 3 (rfv x 24) (by decide) rfl (by decide) (by decide) dX3_copyFrom_1 rfl fl_X3_11 rfl ?_
  refine v_iconst 5 (nI (0)) (by decide) dX3_copyFrom_4 rfl ?_
  refine v_aload_n 6 rfl dX3_copyFrom_5 rfl ?_
  refine v_get 9 (k := 0) 3 (rfv x 2) (by decide) rfl (by decide) (by decide) dX3_copyFrom_6 rfl fl_X3_11 rfl ?_
  refine v_iconst 10 (nI (0)) (by decide) dX3_copyFrom_9 rfl ?_
  refine v_bipush 12 (nI (32)) (by decide) dX3_copyFrom_10 rfl ?_
  refine v_acopy 15 (sp := 0) (dp := 0) (n := 32) (by decide) (by decide) rfl rfl dX3_copyFrom_12 rfl ml_X3_28 ⟨by decide, Nat.le_of_ble_eq_true rfl⟩ rfl rfl rfl ⟨by decide, by decide⟩ (by omega) (by omega) (fun I12 e12 => ?_)
  refine v_aload_n 16 rfl dX3_copyFrom_15 rfl ?_
  refine v_aload_n 17 rfl dX3_copyFrom_16 rfl ?_
  refine v_get 20 (k := 1) 3 (.int (I12 23 1)) (by decide) rfl (by decide) (by decide) dX3_copyFrom_17 rfl fl_X3_15 rfl ?_
  refine v_putI 23 (k := 1) 3 .int (by decide) rfl (by decide) (by decide) rfl (by decide +kernel) rfl rfl (fun _ _ => rfl) dX3_copyFrom_20 rfl fl_X3_15 (fun I20 e20 => ?_)
  refine v_aload_n 24 rfl dX3_copyFrom_23 rfl ?_
  refine v_aload_n 25 rfl dX3_copyFrom_24 rfl ?_
  refine v_get 28 (k := 2) 3 (.int (I20 23 2)) (by decide) rfl (by decide) (by decide) dX3_copyFrom_25 rfl fl_X3_19 rfl ?_
  refine v_putI 31 (k := 2) 3 .int (by decide) rfl (by decide) (by decide) rfl (by decide +kernel) rfl rfl (fun _ _ => rfl) dX3_copyFrom_28 rfl fl_X3_19 (fun I28 e28 => ?_)
  refine v_aload_n 32 rfl dX3_copyFrom_31 rfl ?_
  refine v_get 35 (k := 3) 3 (rfv x 25) (by decide) rfl (by decide) (by decide) dX3_copyFrom_32 rfl fl_X3_22 rfl ?_
  refine v_iconst 36 (nI (0)) (by decide) dX3_copyFrom_35 rfl ?_
  refine v_aload_n 37 rfl dX3_copyFrom_36 rfl ?_
  refine v_get 40 (k := 3) 3 (rfv x 3) (by decide) rfl (by decide) (by decide) dX3_copyFrom_37 rfl fl_X3_22 rfl ?_
  refine v_iconst 41 (nI (0)) (by decide) dX3_copyFrom_40 rfl ?_
  refine v_bipush 43 (nI (6)) (by decide) dX3_copyFrom_41 rfl ?_
  refine v_acopy 46 (sp := 0) (dp := 0) (n := 6) (by decide) (by decide) rfl rfl dX3_copyFrom_43 rfl ml_X3_28 ⟨by decide, Nat.le_of_ble_eq_true rfl⟩ rfl rfl rfl ⟨by decide, by decide⟩ (by omega) (by omega) (fun I43 e43 => ?_)
  refine v_aload_n 47 rfl dX3_copyFrom_46 rfl ?_
  refine v_get 50 (k := 4) 3 (rfv x 26) (by decide) rfl (by decide) (by decide) dX3_copyFrom_47 rfl fl_X3_25 rfl ?_
  refine v_iconst 51 (nI (0)) (by decide) dX3_copyFrom_50 rfl ?_
  refine v_aload_n 52 rfl dX3_copyFrom_51 rfl ?_
  refine v_get 55 (k := 4) 3 (rfv x 4) (by decide) rfl (by decide) (by decide) dX3_copyFrom_52 rfl fl_X3_25 rfl ?_
  refine v_iconst 56 (nI (0)) (by decide) dX3_copyFrom_55 rfl ?_
  refine v_bipush 58 (nI (42)) (by decide) dX3_copyFrom_56 rfl ?_
  refine v_acopy 61 (sp := 0) (dp := 0) (n := 42) (by decide) (by decide) rfl rfl dX3_copyFrom_58 rfl ml_X3_28 ⟨by decide, Nat.le_of_ble_eq_true rfl⟩ rfl rfl rfl ⟨by decide, by decide⟩ (by omega) (by omega) (fun I58 e58 => ?_)
  refine v_aload_n 62 rfl dX3_copyFrom_61 rfl ?_
  refine v_aload_n 63 rfl dX3_copyFrom_62 rfl ?_
  refine v_get 66 (k := 5) 3 (.int (I58 23 5)) (by decide) rfl (by decide) (by decide) dX3_copyFrom_63 rfl fl_X3_34 rfl ?_
  refine v_putI 69 (k := 5) 3 .int (by decide) rfl (by decide) (by decide) rfl (by decide +kernel) rfl rfl (fun _ _ => rfl) dX3_copyFrom_66 rfl fl_X3_34 (fun I66 e66 => ?_)
  refine v_vret rfl dX3_copyFrom_69 ?_
  refine hQ I66 (fun a ha => ?_) ⟨?_, ?_, ?_, fun j hj => ?_, fun j hj => ?_, fun j hj => ?_⟩
  · rw [up2_row e66 (by omega), cpy_row e58 (by omega), cpy_row e43 (by omega), up2_row e28 (by omega), up2_row e20 (by omega), cpy_row e12 (by omega)]
  · rw [up2_off e66 (by omega), cpy_row e58 (by decide), cpy_row e43 (by decide), up2_off e28 (by omega), up2_at e20, cpy_row e12 (by decide)]
  · rw [up2_off e66 (by omega), cpy_row e58 (by decide), cpy_row e43 (by decide), up2_at e28, up2_row e20 (by decide), cpy_row e12 (by decide)]
  · rw [up2_at e66, cpy_row e58 (by decide), cpy_row e43 (by decide), up2_row e28 (by decide), up2_row e20 (by decide), cpy_row e12 (by decide)]
  · rw [up2_row e66 (by decide), cpy_row e58 (by decide), cpy_row e43 (by decide), up2_row e28 (by decide), up2_row e20 (by decide), cpy_at e12 hj]
  · rw [up2_row e66 (by decide), cpy_row e58 (by decide), cpy_at e43 hj, up2_row e28 (by decide), up2_row e20 (by decide), cpy_row e12 (by decide)]
  · rw [up2_row e66 (by decide), cpy_at e58 hj, cpy_row e43 (by decide), up2_row e28 (by decide), up2_row e20 (by decide), cpy_row e12 (by decide)]
set_option maxHeartbeats 4000000 in
theorem sp_X1_dropOldest {x : Cx} {Q : Qt} {I : Iv} {L : Lv} {P : Pv} {H : Hs} {f : Vw} (hc : HC H 4 I P) (hQ : ∀ (I1 : Iv) (P1 : Pv), I1 = up2 I 9 1 (nI 3) → (∀ i, i < 3 → P1 i = P (i + 1)) → P1 3 = P 0 → Q none I1 L P1) : SP x M_X1_dropOldest [rfv x 9] I L P Q := by
  have i0 := isM_hs (hc.2.2.1 0 (by decide))
  have i1 := isM_hs (hc.2.2.1 1 (by decide))
  have i2 := isM_hs (hc.2.2.1 2 (by decide))
  have i3 := isM_hs (hc.2.2.1 3 (by decide))
  refine SP.intro [some (rfv x 9), none, none] pn_X1_dropOldest (Nat.le_of_ble_eq_true rfl) rfl ?_
  refine v_aload_n 1 rfl dX1_dropOldest_0 rfl ?_
  refine v_get 4 (k := 0) 1 (rfv x 10) (by decide) rfl (by decide) (by decide) dX1_dropOldest_1 rfl fl_X1_11 rfl ?_
  refine v_iconst 5 (nI (0)) (by decide) dX1_dropOldest_4 rfl ?_
  refine v_aald 6 (k := 0) (P 0) (by decide) rfl (by decide) dX1_dropOldest_5 rfl rfl (by omega) rfl ?_
  refine v_astore_n 7 [some (rfv x 9), some (rfv x (P 0)), none] dX1_dropOldest_6 rfl (by decide) rfl ?_
  refine v_iconst 8 (nI (1)) (by decide) dX1_dropOldest_7 rfl ?_
  refine v_istore_n 9 [some (rfv x 9), some (rfv x (P 0)), some (.int (nI (1)))] dX1_dropOldest_8 rfl (by decide) rfl ?_
  refine v_iload_n 10 rfl dX1_dropOldest_9 rfl ?_
  refine v_iconst 11 (nI (4)) (by decide) dX1_dropOldest_10 rfl ?_
  refine v_icmpN_ge 34 14 dX1_dropOldest_11 (by decide) rfl (by omega) (by omega) (fun h11 => ?_) (fun h11 => ?_)
  · skip
    exact absurd h11 (by omega)
  · skip
    refine v_aload_n 15 rfl dX1_dropOldest_14 rfl ?_
    refine v_get 18 (k := 0) 1 (rfv x 10) (by decide) rfl (by decide) (by decide) dX1_dropOldest_15 rfl fl_X1_11 rfl ?_
    refine v_iload_n 19 rfl dX1_dropOldest_18 rfl ?_
    refine v_iconst 20 (nI (1)) (by decide) dX1_dropOldest_19 rfl ?_
    refine v_isub 21 (nI (1 - 1)) dX1_dropOldest_20 rfl (pk_sub (by omega)) ?_
    refine v_aload_n 22 rfl dX1_dropOldest_21 rfl ?_
    refine v_get 25 (k := 0) 1 (rfv x 10) (by decide) rfl (by decide) (by decide) dX1_dropOldest_22 rfl fl_X1_11 rfl ?_
    refine v_iload_n 26 rfl dX1_dropOldest_25 rfl ?_
    refine v_aald 27 (k := 1) (P 1) (by decide) rfl (by decide) dX1_dropOldest_26 rfl rfl (by omega) rfl ?_
    refine v_aast 28 (k := 1 - 1) i1.1 i1.2 dX1_dropOldest_27 rfl rfl (by omega) (fun P27_1 e27 => ?_)
    obtain ⟨e27_1, -⟩ : P27_1 = va_up P (1 - 1) (P 1) ∧ True := ⟨e27, trivial⟩
    clear e27
    refine v_iinc 31 [some (rfv x 9), some (rfv x (P 0)), some (.int (nI (1 + 1)))] (nI (1 + 1)) dX1_dropOldest_28 rfl (by decide) rfl (nI_inc _) rfl ?_
    refine v_goto 9 dX1_dropOldest_31 (by decide) ?_
    refine v_drop [some (rfv x 9), some (rfv x (P 0)), some (.int (nI (2)))] ⟨rfl, rfl, rfl, trivial⟩ ?_
    skip
    refine v_iload_n 10 rfl dX1_dropOldest_9 rfl ?_
    refine v_iconst 11 (nI (4)) (by decide) dX1_dropOldest_10 rfl ?_
    refine v_icmpN_ge 34 14 dX1_dropOldest_11 (by decide) rfl (by omega) (by omega) (fun h11 => ?_) (fun h11 => ?_)
    · skip
      exact absurd h11 (by omega)
    · skip
      refine v_aload_n 15 rfl dX1_dropOldest_14 rfl ?_
      refine v_get 18 (k := 0) 1 (rfv x 10) (by decide) rfl (by decide) (by decide) dX1_dropOldest_15 rfl fl_X1_11 rfl ?_
      refine v_iload_n 19 rfl dX1_dropOldest_18 rfl ?_
      refine v_iconst 20 (nI (1)) (by decide) dX1_dropOldest_19 rfl ?_
      refine v_isub 21 (nI (2 - 1)) dX1_dropOldest_20 rfl (pk_sub (by omega)) ?_
      refine v_aload_n 22 rfl dX1_dropOldest_21 rfl ?_
      refine v_get 25 (k := 0) 1 (rfv x 10) (by decide) rfl (by decide) (by decide) dX1_dropOldest_22 rfl fl_X1_11 rfl ?_
      refine v_iload_n 26 rfl dX1_dropOldest_25 rfl ?_
      refine v_aald 27 (k := 2) (P 2) (by decide) rfl (by decide) dX1_dropOldest_26 rfl rfl (by omega) (by rw [e27_1]; rfl) ?_
      refine v_aast 28 (k := 2 - 1) i2.1 i2.2 dX1_dropOldest_27 rfl rfl (by omega) (fun P27_2 e27 => ?_)
      obtain ⟨e27_2, -⟩ : P27_2 = va_up P27_1 (2 - 1) (P 2) ∧ True := ⟨e27, trivial⟩
      clear e27
      refine v_iinc 31 [some (rfv x 9), some (rfv x (P 0)), some (.int (nI (2 + 1)))] (nI (2 + 1)) dX1_dropOldest_28 rfl (by decide) rfl (nI_inc _) rfl ?_
      refine v_goto 9 dX1_dropOldest_31 (by decide) ?_
      refine v_drop [some (rfv x 9), some (rfv x (P 0)), some (.int (nI (3)))] ⟨rfl, rfl, rfl, trivial⟩ ?_
      skip
      refine v_iload_n 10 rfl dX1_dropOldest_9 rfl ?_
      refine v_iconst 11 (nI (4)) (by decide) dX1_dropOldest_10 rfl ?_
      refine v_icmpN_ge 34 14 dX1_dropOldest_11 (by decide) rfl (by omega) (by omega) (fun h11 => ?_) (fun h11 => ?_)
      · skip
        exact absurd h11 (by omega)
      · skip
        refine v_aload_n 15 rfl dX1_dropOldest_14 rfl ?_
        refine v_get 18 (k := 0) 1 (rfv x 10) (by decide) rfl (by decide) (by decide) dX1_dropOldest_15 rfl fl_X1_11 rfl ?_
        refine v_iload_n 19 rfl dX1_dropOldest_18 rfl ?_
        refine v_iconst 20 (nI (1)) (by decide) dX1_dropOldest_19 rfl ?_
        refine v_isub 21 (nI (3 - 1)) dX1_dropOldest_20 rfl (pk_sub (by omega)) ?_
        refine v_aload_n 22 rfl dX1_dropOldest_21 rfl ?_
        refine v_get 25 (k := 0) 1 (rfv x 10) (by decide) rfl (by decide) (by decide) dX1_dropOldest_22 rfl fl_X1_11 rfl ?_
        refine v_iload_n 26 rfl dX1_dropOldest_25 rfl ?_
        refine v_aald 27 (k := 3) (P 3) (by decide) rfl (by decide) dX1_dropOldest_26 rfl rfl (by omega) (by rw [e27_2, e27_1]; rfl) ?_
        refine v_aast 28 (k := 3 - 1) i3.1 i3.2 dX1_dropOldest_27 rfl rfl (by omega) (fun P27_3 e27 => ?_)
        obtain ⟨e27_3, -⟩ : P27_3 = va_up P27_2 (3 - 1) (P 3) ∧ True := ⟨e27, trivial⟩
        clear e27
        refine v_iinc 31 [some (rfv x 9), some (rfv x (P 0)), some (.int (nI (3 + 1)))] (nI (3 + 1)) dX1_dropOldest_28 rfl (by decide) rfl (nI_inc _) rfl ?_
        refine v_goto 9 dX1_dropOldest_31 (by decide) ?_
        refine v_drop [some (rfv x 9), some (rfv x (P 0)), some (.int (nI (4)))] ⟨rfl, rfl, rfl, trivial⟩ ?_
        skip
        refine v_iload_n 10 rfl dX1_dropOldest_9 rfl ?_
        refine v_iconst 11 (nI (4)) (by decide) dX1_dropOldest_10 rfl ?_
        refine v_icmpN_ge 34 14 dX1_dropOldest_11 (by decide) rfl (by omega) (by omega) (fun h11 => ?_) (fun h11 => ?_)
        · skip
          refine v_aload_n 35 rfl dX1_dropOldest_34 rfl ?_
          refine v_get 38 (k := 0) 1 (rfv x 10) (by decide) rfl (by decide) (by decide) dX1_dropOldest_35 rfl fl_X1_11 rfl ?_
          refine v_iconst 39 (nI (3)) (by decide) dX1_dropOldest_38 rfl ?_
          refine v_aload_n 40 rfl dX1_dropOldest_39 rfl ?_
          refine v_aast 41 (k := 3) i0.1 i0.2 dX1_dropOldest_40 rfl rfl (by omega) (fun P40 e40 => ?_)
          refine v_aload_n 42 rfl dX1_dropOldest_41 rfl ?_
          refine v_dup 43 dX1_dropOldest_42 rfl rfl ?_
          refine v_get 46 (k := 1) 1 (.int (nI (4))) (by decide) rfl (by decide) (by decide) dX1_dropOldest_43 rfl fl_X1_18 (congrArg Value.int hc.2.1) ?_
          refine v_iconst 47 (nI (1)) (by decide) dX1_dropOldest_46 rfl ?_
          refine v_isub 48 (nI (4 - 1)) dX1_dropOldest_47 rfl (pk_sub (by omega)) ?_
          refine v_putI 51 (k := 1) 1 .int (by decide) rfl (by decide) (by decide) rfl (by decide +kernel) rfl rfl (fun _ _ => rfl) dX1_dropOldest_48 rfl fl_X1_18 (fun I48 e48 => ?_)
          refine v_vret rfl dX1_dropOldest_51 ?_
          refine hQ I48 P40 e48 (fun i hi => ?_) ?_
          · rw [e40, e27_3, e27_2, e27_1]
            rcases (show i = 0 ∨ i = 1 ∨ i = 2 by omega) with q | q | q <;> subst q <;> rfl
          · rw [e40]
            rfl
        · skip
          exact absurd h11 (by omega)
end
section
set_option maxHeartbeats 4000000 in
theorem sp_X1_record {x : Cx} {Q : Qt} {I : Iv} {L : Lv} {P : Pv} {H : Hs} {hn : Nat} {f : Vw} (hc : HC H hn I P) (c : RC 1 f I) (w : Wf f) (hQ : ∀ (I1 : Iv) (P1 : Pv), (∀ a, (a < 9 ∨ 26 < a) → I1 a = I a) → HC (recH H hn f) (recN hn) I1 P1 → Q none I1 L P1) : SP x M_X1_record [rfv x 9, rfv x 1] I L P Q := by
  have hn4 := hc.1
  refine SP.intro [some (rfv x 9), some (rfv x 1)] pn_X1_record (Nat.le_of_ble_eq_true rfl) rfl ?_
  refine v_aload_n 1 rfl dX1_record_0 rfl ?_
  refine v_get 4 (k := 1) 1 (.int (nI (hn))) (by decide) rfl (by decide) (by decide) dX1_record_1 rfl fl_X1_18 (congrArg Value.int hc.2.1) ?_
  refine v_iconst 5 (nI (4)) (by decide) dX1_record_4 rfl ?_
  refine v_icmpN_ne 12 8 dX1_record_5 (by decide) rfl (by omega) (by omega) (fun h5 => ?_) (fun h5 => ?_)
  · skip
    have hM : isM (P hn) := hc.2.2.1 hn (by omega)
    rcases hM with eM | eM | eM | eM
    · skip
      refine v_aload_n 13 rfl dX1_record_12 rfl ?_
      refine v_get 16 (k := 0) 1 (rfv x 10) (by decide) rfl (by decide) (by decide) dX1_record_13 rfl fl_X1_11 rfl ?_
      refine v_aload_n 17 rfl dX1_record_16 rfl ?_
      refine v_get 20 (k := 1) 1 (.int (nI (hn))) (by decide) rfl (by decide) (by decide) dX1_record_17 rfl fl_X1_18 (congrArg Value.int hc.2.1) ?_
      refine v_aald 21 (k := hn) 11 (by decide) rfl (by decide) dX1_record_20 rfl rfl (by omega) eM ?_
      refine v_aload_n 22 rfl dX1_record_21 rfl ?_
      refine v_invV 25 M_X3_copyFrom [rfv x 1] (by decide) rfl (by decide) rfl dX1_record_22 rfl ml_X1_25 im_X3_copyFrom se_X3_copyFrom mc_X3_copyFrom (by decide) (Nat.le_of_ble_eq_true rfl) (sp_X3_copyFrom_11_1 (fun Ic fc cc => ?_))
      refine v_aload_n 26 rfl dX1_record_25 rfl ?_
      refine v_dup 27 dX1_record_26 rfl rfl ?_
      refine v_get 30 (k := 1) 1 (.int (nI (hn))) (by decide) rfl (by decide) (by decide) dX1_record_27 rfl fl_X1_18 (congrArg Value.int ((congrFun (fc 9 (by decide)) 1).trans hc.2.1)) ?_
      refine v_iconst 31 (nI (1)) (by decide) dX1_record_30 rfl ?_
      refine v_iadd 32 (nI (hn + 1)) dX1_record_31 rfl (nI_add _ _) ?_
      refine v_putI 35 (k := 1) 1 .int (by decide) rfl (by decide) (by decide) rfl (by decide +kernel) rfl rfl (fun _ _ => rfl) dX1_record_32 rfl fl_X1_18 (fun I32 e32 => ?_)
      refine v_vret rfl dX1_record_35 ?_
      refine hQ I32 P (fun a ha => ?_) (HC_recA hc w c h5 (by rw [eM]; exact fc) (by rw [eM]; exact cc) e32)
      rw [up2_row e32 (by omega), fc a (by omega)]
    · skip
      refine v_aload_n 13 rfl dX1_record_12 rfl ?_
      refine v_get 16 (k := 0) 1 (rfv x 10) (by decide) rfl (by decide) (by decide) dX1_record_13 rfl fl_X1_11 rfl ?_
      refine v_aload_n 17 rfl dX1_record_16 rfl ?_
      refine v_get 20 (k := 1) 1 (.int (nI (hn))) (by decide) rfl (by decide) (by decide) dX1_record_17 rfl fl_X1_18 (congrArg Value.int hc.2.1) ?_
      refine v_aald 21 (k := hn) 15 (by decide) rfl (by decide) dX1_record_20 rfl rfl (by omega) eM ?_
      refine v_aload_n 22 rfl dX1_record_21 rfl ?_
      refine v_invV 25 M_X3_copyFrom [rfv x 1] (by decide) rfl (by decide) rfl dX1_record_22 rfl ml_X1_25 im_X3_copyFrom se_X3_copyFrom mc_X3_copyFrom (by decide) (Nat.le_of_ble_eq_true rfl) (sp_X3_copyFrom_15_1 (fun Ic fc cc => ?_))
      refine v_aload_n 26 rfl dX1_record_25 rfl ?_
      refine v_dup 27 dX1_record_26 rfl rfl ?_
      refine v_get 30 (k := 1) 1 (.int (nI (hn))) (by decide) rfl (by decide) (by decide) dX1_record_27 rfl fl_X1_18 (congrArg Value.int ((congrFun (fc 9 (by decide)) 1).trans hc.2.1)) ?_
      refine v_iconst 31 (nI (1)) (by decide) dX1_record_30 rfl ?_
      refine v_iadd 32 (nI (hn + 1)) dX1_record_31 rfl (nI_add _ _) ?_
      refine v_putI 35 (k := 1) 1 .int (by decide) rfl (by decide) (by decide) rfl (by decide +kernel) rfl rfl (fun _ _ => rfl) dX1_record_32 rfl fl_X1_18 (fun I32 e32 => ?_)
      refine v_vret rfl dX1_record_35 ?_
      refine hQ I32 P (fun a ha => ?_) (HC_recA hc w c h5 (by rw [eM]; exact fc) (by rw [eM]; exact cc) e32)
      rw [up2_row e32 (by omega), fc a (by omega)]
    · skip
      refine v_aload_n 13 rfl dX1_record_12 rfl ?_
      refine v_get 16 (k := 0) 1 (rfv x 10) (by decide) rfl (by decide) (by decide) dX1_record_13 rfl fl_X1_11 rfl ?_
      refine v_aload_n 17 rfl dX1_record_16 rfl ?_
      refine v_get 20 (k := 1) 1 (.int (nI (hn))) (by decide) rfl (by decide) (by decide) dX1_record_17 rfl fl_X1_18 (congrArg Value.int hc.2.1) ?_
      refine v_aald 21 (k := hn) 19 (by decide) rfl (by decide) dX1_record_20 rfl rfl (by omega) eM ?_
      refine v_aload_n 22 rfl dX1_record_21 rfl ?_
      refine v_invV 25 M_X3_copyFrom [rfv x 1] (by decide) rfl (by decide) rfl dX1_record_22 rfl ml_X1_25 im_X3_copyFrom se_X3_copyFrom mc_X3_copyFrom (by decide) (Nat.le_of_ble_eq_true rfl) (sp_X3_copyFrom_19_1 (fun Ic fc cc => ?_))
      refine v_aload_n 26 rfl dX1_record_25 rfl ?_
      refine v_dup 27 dX1_record_26 rfl rfl ?_
      refine v_get 30 (k := 1) 1 (.int (nI (hn))) (by decide) rfl (by decide) (by decide) dX1_record_27 rfl fl_X1_18 (congrArg Value.int ((congrFun (fc 9 (by decide)) 1).trans hc.2.1)) ?_
      refine v_iconst 31 (nI (1)) (by decide) dX1_record_30 rfl ?_
      refine v_iadd 32 (nI (hn + 1)) dX1_record_31 rfl (nI_add _ _) ?_
      refine v_putI 35 (k := 1) 1 .int (by decide) rfl (by decide) (by decide) rfl (by decide +kernel) rfl rfl (fun _ _ => rfl) dX1_record_32 rfl fl_X1_18 (fun I32 e32 => ?_)
      refine v_vret rfl dX1_record_35 ?_
      refine hQ I32 P (fun a ha => ?_) (HC_recA hc w c h5 (by rw [eM]; exact fc) (by rw [eM]; exact cc) e32)
      rw [up2_row e32 (by omega), fc a (by omega)]
    · skip
      refine v_aload_n 13 rfl dX1_record_12 rfl ?_
      refine v_get 16 (k := 0) 1 (rfv x 10) (by decide) rfl (by decide) (by decide) dX1_record_13 rfl fl_X1_11 rfl ?_
      refine v_aload_n 17 rfl dX1_record_16 rfl ?_
      refine v_get 20 (k := 1) 1 (.int (nI (hn))) (by decide) rfl (by decide) (by decide) dX1_record_17 rfl fl_X1_18 (congrArg Value.int hc.2.1) ?_
      refine v_aald 21 (k := hn) 23 (by decide) rfl (by decide) dX1_record_20 rfl rfl (by omega) eM ?_
      refine v_aload_n 22 rfl dX1_record_21 rfl ?_
      refine v_invV 25 M_X3_copyFrom [rfv x 1] (by decide) rfl (by decide) rfl dX1_record_22 rfl ml_X1_25 im_X3_copyFrom se_X3_copyFrom mc_X3_copyFrom (by decide) (Nat.le_of_ble_eq_true rfl) (sp_X3_copyFrom_23_1 (fun Ic fc cc => ?_))
      refine v_aload_n 26 rfl dX1_record_25 rfl ?_
      refine v_dup 27 dX1_record_26 rfl rfl ?_
      refine v_get 30 (k := 1) 1 (.int (nI (hn))) (by decide) rfl (by decide) (by decide) dX1_record_27 rfl fl_X1_18 (congrArg Value.int ((congrFun (fc 9 (by decide)) 1).trans hc.2.1)) ?_
      refine v_iconst 31 (nI (1)) (by decide) dX1_record_30 rfl ?_
      refine v_iadd 32 (nI (hn + 1)) dX1_record_31 rfl (nI_add _ _) ?_
      refine v_putI 35 (k := 1) 1 .int (by decide) rfl (by decide) (by decide) rfl (by decide +kernel) rfl rfl (fun _ _ => rfl) dX1_record_32 rfl fl_X1_18 (fun I32 e32 => ?_)
      refine v_vret rfl dX1_record_35 ?_
      refine hQ I32 P (fun a ha => ?_) (HC_recA hc w c h5 (by rw [eM]; exact fc) (by rw [eM]; exact cc) e32)
      rw [up2_row e32 (by omega), fc a (by omega)]
  · skip
    subst h5
    have hc4 : HC H 4 I P := hc
    refine v_aload_n 9 rfl dX1_record_8 rfl ?_
    refine v_invV 12 M_X1_dropOldest [] (by decide) rfl (by decide) rfl dX1_record_9 rfl ml_X1_22 im_X1_dropOldest se_X1_dropOldest mc_X1_dropOldest (by decide) (Nat.le_of_ble_eq_true rfl) (sp_X1_dropOldest (f := f) hc4 (fun Id Pd ed pd1 pd2 => ?_))
    have hM : isM (P 0) := hc.2.2.1 0 (by omega)
    rcases hM with eM | eM | eM | eM
    · skip
      refine v_aload_n 13 rfl dX1_record_12 rfl ?_
      refine v_get 16 (k := 0) 1 (rfv x 10) (by decide) rfl (by decide) (by decide) dX1_record_13 rfl fl_X1_11 rfl ?_
      refine v_aload_n 17 rfl dX1_record_16 rfl ?_
      refine v_get 20 (k := 1) 1 (.int (nI (3))) (by decide) rfl (by decide) (by decide) dX1_record_17 rfl fl_X1_18 (congrArg Value.int (up2_at ed)) ?_
      refine v_aald 21 (k := 3) 11 (by decide) rfl (by decide) dX1_record_20 rfl rfl (by omega) (pd2.trans eM) ?_
      refine v_aload_n 22 rfl dX1_record_21 rfl ?_
      refine v_invV 25 M_X3_copyFrom [rfv x 1] (by decide) rfl (by decide) rfl dX1_record_22 rfl ml_X1_25 im_X3_copyFrom se_X3_copyFrom mc_X3_copyFrom (by decide) (Nat.le_of_ble_eq_true rfl) (sp_X3_copyFrom_11_1 (fun Ic fc cc => ?_))
      refine v_aload_n 26 rfl dX1_record_25 rfl ?_
      refine v_dup 27 dX1_record_26 rfl rfl ?_
      refine v_get 30 (k := 1) 1 (.int (nI (3))) (by decide) rfl (by decide) (by decide) dX1_record_27 rfl fl_X1_18 (congrArg Value.int ((congrFun (fc 9 (by decide)) 1).trans (up2_at ed))) ?_
      refine v_iconst 31 (nI (1)) (by decide) dX1_record_30 rfl ?_
      refine v_iadd 32 (nI (3 + 1)) dX1_record_31 rfl (nI_add _ _) ?_
      refine v_putI 35 (k := 1) 1 .int (by decide) rfl (by decide) (by decide) rfl (by decide +kernel) rfl rfl (fun _ _ => rfl) dX1_record_32 rfl fl_X1_18 (fun I32 e32 => ?_)
      refine v_vret rfl dX1_record_35 ?_
      refine hQ I32 Pd (fun a ha => ?_) (HC_recB hc w c ed pd1 pd2 (by rw [eM]; exact fc) (by rw [eM]; exact cc) e32)
      rw [up2_row e32 (by omega), fc a (by omega), up2_row ed (by omega)]
    · skip
      refine v_aload_n 13 rfl dX1_record_12 rfl ?_
      refine v_get 16 (k := 0) 1 (rfv x 10) (by decide) rfl (by decide) (by decide) dX1_record_13 rfl fl_X1_11 rfl ?_
      refine v_aload_n 17 rfl dX1_record_16 rfl ?_
      refine v_get 20 (k := 1) 1 (.int (nI (3))) (by decide) rfl (by decide) (by decide) dX1_record_17 rfl fl_X1_18 (congrArg Value.int (up2_at ed)) ?_
      refine v_aald 21 (k := 3) 15 (by decide) rfl (by decide) dX1_record_20 rfl rfl (by omega) (pd2.trans eM) ?_
      refine v_aload_n 22 rfl dX1_record_21 rfl ?_
      refine v_invV 25 M_X3_copyFrom [rfv x 1] (by decide) rfl (by decide) rfl dX1_record_22 rfl ml_X1_25 im_X3_copyFrom se_X3_copyFrom mc_X3_copyFrom (by decide) (Nat.le_of_ble_eq_true rfl) (sp_X3_copyFrom_15_1 (fun Ic fc cc => ?_))
      refine v_aload_n 26 rfl dX1_record_25 rfl ?_
      refine v_dup 27 dX1_record_26 rfl rfl ?_
      refine v_get 30 (k := 1) 1 (.int (nI (3))) (by decide) rfl (by decide) (by decide) dX1_record_27 rfl fl_X1_18 (congrArg Value.int ((congrFun (fc 9 (by decide)) 1).trans (up2_at ed))) ?_
      refine v_iconst 31 (nI (1)) (by decide) dX1_record_30 rfl ?_
      refine v_iadd 32 (nI (3 + 1)) dX1_record_31 rfl (nI_add _ _) ?_
      refine v_putI 35 (k := 1) 1 .int (by decide) rfl (by decide) (by decide) rfl (by decide +kernel) rfl rfl (fun _ _ => rfl) dX1_record_32 rfl fl_X1_18 (fun I32 e32 => ?_)
      refine v_vret rfl dX1_record_35 ?_
      refine hQ I32 Pd (fun a ha => ?_) (HC_recB hc w c ed pd1 pd2 (by rw [eM]; exact fc) (by rw [eM]; exact cc) e32)
      rw [up2_row e32 (by omega), fc a (by omega), up2_row ed (by omega)]
    · skip
      refine v_aload_n 13 rfl dX1_record_12 rfl ?_
      refine v_get 16 (k := 0) 1 (rfv x 10) (by decide) rfl (by decide) (by decide) dX1_record_13 rfl fl_X1_11 rfl ?_
      refine v_aload_n 17 rfl dX1_record_16 rfl ?_
      refine v_get 20 (k := 1) 1 (.int (nI (3))) (by decide) rfl (by decide) (by decide) dX1_record_17 rfl fl_X1_18 (congrArg Value.int (up2_at ed)) ?_
      refine v_aald 21 (k := 3) 19 (by decide) rfl (by decide) dX1_record_20 rfl rfl (by omega) (pd2.trans eM) ?_
      refine v_aload_n 22 rfl dX1_record_21 rfl ?_
      refine v_invV 25 M_X3_copyFrom [rfv x 1] (by decide) rfl (by decide) rfl dX1_record_22 rfl ml_X1_25 im_X3_copyFrom se_X3_copyFrom mc_X3_copyFrom (by decide) (Nat.le_of_ble_eq_true rfl) (sp_X3_copyFrom_19_1 (fun Ic fc cc => ?_))
      refine v_aload_n 26 rfl dX1_record_25 rfl ?_
      refine v_dup 27 dX1_record_26 rfl rfl ?_
      refine v_get 30 (k := 1) 1 (.int (nI (3))) (by decide) rfl (by decide) (by decide) dX1_record_27 rfl fl_X1_18 (congrArg Value.int ((congrFun (fc 9 (by decide)) 1).trans (up2_at ed))) ?_
      refine v_iconst 31 (nI (1)) (by decide) dX1_record_30 rfl ?_
      refine v_iadd 32 (nI (3 + 1)) dX1_record_31 rfl (nI_add _ _) ?_
      refine v_putI 35 (k := 1) 1 .int (by decide) rfl (by decide) (by decide) rfl (by decide +kernel) rfl rfl (fun _ _ => rfl) dX1_record_32 rfl fl_X1_18 (fun I32 e32 => ?_)
      refine v_vret rfl dX1_record_35 ?_
      refine hQ I32 Pd (fun a ha => ?_) (HC_recB hc w c ed pd1 pd2 (by rw [eM]; exact fc) (by rw [eM]; exact cc) e32)
      rw [up2_row e32 (by omega), fc a (by omega), up2_row ed (by omega)]
    · skip
      refine v_aload_n 13 rfl dX1_record_12 rfl ?_
      refine v_get 16 (k := 0) 1 (rfv x 10) (by decide) rfl (by decide) (by decide) dX1_record_13 rfl fl_X1_11 rfl ?_
      refine v_aload_n 17 rfl dX1_record_16 rfl ?_
      refine v_get 20 (k := 1) 1 (.int (nI (3))) (by decide) rfl (by decide) (by decide) dX1_record_17 rfl fl_X1_18 (congrArg Value.int (up2_at ed)) ?_
      refine v_aald 21 (k := 3) 23 (by decide) rfl (by decide) dX1_record_20 rfl rfl (by omega) (pd2.trans eM) ?_
      refine v_aload_n 22 rfl dX1_record_21 rfl ?_
      refine v_invV 25 M_X3_copyFrom [rfv x 1] (by decide) rfl (by decide) rfl dX1_record_22 rfl ml_X1_25 im_X3_copyFrom se_X3_copyFrom mc_X3_copyFrom (by decide) (Nat.le_of_ble_eq_true rfl) (sp_X3_copyFrom_23_1 (fun Ic fc cc => ?_))
      refine v_aload_n 26 rfl dX1_record_25 rfl ?_
      refine v_dup 27 dX1_record_26 rfl rfl ?_
      refine v_get 30 (k := 1) 1 (.int (nI (3))) (by decide) rfl (by decide) (by decide) dX1_record_27 rfl fl_X1_18 (congrArg Value.int ((congrFun (fc 9 (by decide)) 1).trans (up2_at ed))) ?_
      refine v_iconst 31 (nI (1)) (by decide) dX1_record_30 rfl ?_
      refine v_iadd 32 (nI (3 + 1)) dX1_record_31 rfl (nI_add _ _) ?_
      refine v_putI 35 (k := 1) 1 .int (by decide) rfl (by decide) (by decide) rfl (by decide +kernel) rfl rfl (fun _ _ => rfl) dX1_record_32 rfl fl_X1_18 (fun I32 e32 => ?_)
      refine v_vret rfl dX1_record_35 ?_
      refine hQ I32 Pd (fun a ha => ?_) (HC_recB hc w c ed pd1 pd2 (by rw [eM]; exact fc) (by rw [eM]; exact cc) e32)
      rw [up2_row e32 (by omega), fc a (by omega), up2_row ed (by omega)]
set_option maxHeartbeats 4000000 in
theorem sp_X1_takeLatest {x : Cx} {Q : Qt} {I : Iv} {L : Lv} {P : Pv} {H : Hs} {hn : Nat} (hc : HC H (hn + 1) I P) (hw : Wf (H hn)) (hQ : ∀ (I1 : Iv), (∀ a, (4 < a ∧ a ≠ 9) ∨ a < 1 → I1 a = I a) → HC H hn I1 P → RC 1 (H hn) I1 → Q none I1 L P) : SP x M_X1_takeLatest [rfv x 9, rfv x 1] I L P Q := by
  have hn4 := hc.1
  have hM : isM (P hn) := hc.2.2.1 hn (by omega)
  rcases hM with eM | eM | eM | eM
  · skip
    refine SP.intro [some (rfv x 9), some (rfv x 1)] pn_X1_takeLatest (Nat.le_of_ble_eq_true rfl) rfl ?_
    refine v_aload_n 1 rfl dX1_takeLatest_0 rfl ?_
    refine v_dup 2 dX1_takeLatest_1 rfl rfl ?_
    refine v_get 5 (k := 1) 1 (.int (nI (hn + 1))) (by decide) rfl (by decide) (by decide) dX1_takeLatest_2 rfl fl_X1_18 (congrArg Value.int hc.2.1) ?_
    refine v_iconst 6 (nI (1)) (by decide) dX1_takeLatest_5 rfl ?_
    refine v_isub 7 (nI (hn)) dX1_takeLatest_6 rfl (by rw [show nI (hn + 1) - nI 1 = nI hn from nI_pred hn]) ?_
    refine v_putI 10 (k := 1) 1 .int (by decide) rfl (by decide) (by decide) rfl (by decide +kernel) rfl rfl (fun _ _ => rfl) dX1_takeLatest_7 rfl fl_X1_18 (fun I7 e7 => ?_)
    refine v_aload_n 11 rfl dX1_takeLatest_10 rfl ?_
    refine v_aload_n 12 rfl dX1_takeLatest_11 rfl ?_
    refine v_get 15 (k := 0) 1 (rfv x 10) (by decide) rfl (by decide) (by decide) dX1_takeLatest_12 rfl fl_X1_11 rfl ?_
    refine v_aload_n 16 rfl dX1_takeLatest_15 rfl ?_
    refine v_get 19 (k := 1) 1 (.int (nI (hn))) (by decide) rfl (by decide) (by decide) dX1_takeLatest_16 rfl fl_X1_18 (congrArg Value.int (up2_at e7)) ?_
    refine v_aald 20 (k := hn) 11 (by decide) rfl (by decide) dX1_takeLatest_19 rfl rfl (by omega) eM ?_
    refine v_invV 23 M_X3_copyFrom [rfv x 11] (by decide) rfl (by decide) rfl dX1_takeLatest_20 rfl ml_X1_25 im_X3_copyFrom se_X3_copyFrom mc_X3_copyFrom (by decide) (Nat.le_of_ble_eq_true rfl) (sp_X3_copyFrom_1_11 (fun Ic fc cc => ?_))
    refine v_vret rfl dX1_takeLatest_23 ?_
    refine hQ Ic (fun a ha => ?_) (HC_take hc e7 fc) (cc.rc (f := H hn) ?_ hw)
    · rw [fc a (by omega), up2_row e7 (by omega)]
    · have h9 := hc.2.2.2.2 hn (by omega)
      rw [eM] at h9
      exact h9.same (fun a q1 q2 => up2_row e7 (by omega))
  · skip
    refine SP.intro [some (rfv x 9), some (rfv x 1)] pn_X1_takeLatest (Nat.le_of_ble_eq_true rfl) rfl ?_
    refine v_aload_n 1 rfl dX1_takeLatest_0 rfl ?_
    refine v_dup 2 dX1_takeLatest_1 rfl rfl ?_
    refine v_get 5 (k := 1) 1 (.int (nI (hn + 1))) (by decide) rfl (by decide) (by decide) dX1_takeLatest_2 rfl fl_X1_18 (congrArg Value.int hc.2.1) ?_
    refine v_iconst 6 (nI (1)) (by decide) dX1_takeLatest_5 rfl ?_
    refine v_isub 7 (nI (hn)) dX1_takeLatest_6 rfl (by rw [show nI (hn + 1) - nI 1 = nI hn from nI_pred hn]) ?_
    refine v_putI 10 (k := 1) 1 .int (by decide) rfl (by decide) (by decide) rfl (by decide +kernel) rfl rfl (fun _ _ => rfl) dX1_takeLatest_7 rfl fl_X1_18 (fun I7 e7 => ?_)
    refine v_aload_n 11 rfl dX1_takeLatest_10 rfl ?_
    refine v_aload_n 12 rfl dX1_takeLatest_11 rfl ?_
    refine v_get 15 (k := 0) 1 (rfv x 10) (by decide) rfl (by decide) (by decide) dX1_takeLatest_12 rfl fl_X1_11 rfl ?_
    refine v_aload_n 16 rfl dX1_takeLatest_15 rfl ?_
    refine v_get 19 (k := 1) 1 (.int (nI (hn))) (by decide) rfl (by decide) (by decide) dX1_takeLatest_16 rfl fl_X1_18 (congrArg Value.int (up2_at e7)) ?_
    refine v_aald 20 (k := hn) 15 (by decide) rfl (by decide) dX1_takeLatest_19 rfl rfl (by omega) eM ?_
    refine v_invV 23 M_X3_copyFrom [rfv x 15] (by decide) rfl (by decide) rfl dX1_takeLatest_20 rfl ml_X1_25 im_X3_copyFrom se_X3_copyFrom mc_X3_copyFrom (by decide) (Nat.le_of_ble_eq_true rfl) (sp_X3_copyFrom_1_15 (fun Ic fc cc => ?_))
    refine v_vret rfl dX1_takeLatest_23 ?_
    refine hQ Ic (fun a ha => ?_) (HC_take hc e7 fc) (cc.rc (f := H hn) ?_ hw)
    · rw [fc a (by omega), up2_row e7 (by omega)]
    · have h9 := hc.2.2.2.2 hn (by omega)
      rw [eM] at h9
      exact h9.same (fun a q1 q2 => up2_row e7 (by omega))
  · skip
    refine SP.intro [some (rfv x 9), some (rfv x 1)] pn_X1_takeLatest (Nat.le_of_ble_eq_true rfl) rfl ?_
    refine v_aload_n 1 rfl dX1_takeLatest_0 rfl ?_
    refine v_dup 2 dX1_takeLatest_1 rfl rfl ?_
    refine v_get 5 (k := 1) 1 (.int (nI (hn + 1))) (by decide) rfl (by decide) (by decide) dX1_takeLatest_2 rfl fl_X1_18 (congrArg Value.int hc.2.1) ?_
    refine v_iconst 6 (nI (1)) (by decide) dX1_takeLatest_5 rfl ?_
    refine v_isub 7 (nI (hn)) dX1_takeLatest_6 rfl (by rw [show nI (hn + 1) - nI 1 = nI hn from nI_pred hn]) ?_
    refine v_putI 10 (k := 1) 1 .int (by decide) rfl (by decide) (by decide) rfl (by decide +kernel) rfl rfl (fun _ _ => rfl) dX1_takeLatest_7 rfl fl_X1_18 (fun I7 e7 => ?_)
    refine v_aload_n 11 rfl dX1_takeLatest_10 rfl ?_
    refine v_aload_n 12 rfl dX1_takeLatest_11 rfl ?_
    refine v_get 15 (k := 0) 1 (rfv x 10) (by decide) rfl (by decide) (by decide) dX1_takeLatest_12 rfl fl_X1_11 rfl ?_
    refine v_aload_n 16 rfl dX1_takeLatest_15 rfl ?_
    refine v_get 19 (k := 1) 1 (.int (nI (hn))) (by decide) rfl (by decide) (by decide) dX1_takeLatest_16 rfl fl_X1_18 (congrArg Value.int (up2_at e7)) ?_
    refine v_aald 20 (k := hn) 19 (by decide) rfl (by decide) dX1_takeLatest_19 rfl rfl (by omega) eM ?_
    refine v_invV 23 M_X3_copyFrom [rfv x 19] (by decide) rfl (by decide) rfl dX1_takeLatest_20 rfl ml_X1_25 im_X3_copyFrom se_X3_copyFrom mc_X3_copyFrom (by decide) (Nat.le_of_ble_eq_true rfl) (sp_X3_copyFrom_1_19 (fun Ic fc cc => ?_))
    refine v_vret rfl dX1_takeLatest_23 ?_
    refine hQ Ic (fun a ha => ?_) (HC_take hc e7 fc) (cc.rc (f := H hn) ?_ hw)
    · rw [fc a (by omega), up2_row e7 (by omega)]
    · have h9 := hc.2.2.2.2 hn (by omega)
      rw [eM] at h9
      exact h9.same (fun a q1 q2 => up2_row e7 (by omega))
  · skip
    refine SP.intro [some (rfv x 9), some (rfv x 1)] pn_X1_takeLatest (Nat.le_of_ble_eq_true rfl) rfl ?_
    refine v_aload_n 1 rfl dX1_takeLatest_0 rfl ?_
    refine v_dup 2 dX1_takeLatest_1 rfl rfl ?_
    refine v_get 5 (k := 1) 1 (.int (nI (hn + 1))) (by decide) rfl (by decide) (by decide) dX1_takeLatest_2 rfl fl_X1_18 (congrArg Value.int hc.2.1) ?_
    refine v_iconst 6 (nI (1)) (by decide) dX1_takeLatest_5 rfl ?_
    refine v_isub 7 (nI (hn)) dX1_takeLatest_6 rfl (by rw [show nI (hn + 1) - nI 1 = nI hn from nI_pred hn]) ?_
    refine v_putI 10 (k := 1) 1 .int (by decide) rfl (by decide) (by decide) rfl (by decide +kernel) rfl rfl (fun _ _ => rfl) dX1_takeLatest_7 rfl fl_X1_18 (fun I7 e7 => ?_)
    refine v_aload_n 11 rfl dX1_takeLatest_10 rfl ?_
    refine v_aload_n 12 rfl dX1_takeLatest_11 rfl ?_
    refine v_get 15 (k := 0) 1 (rfv x 10) (by decide) rfl (by decide) (by decide) dX1_takeLatest_12 rfl fl_X1_11 rfl ?_
    refine v_aload_n 16 rfl dX1_takeLatest_15 rfl ?_
    refine v_get 19 (k := 1) 1 (.int (nI (hn))) (by decide) rfl (by decide) (by decide) dX1_takeLatest_16 rfl fl_X1_18 (congrArg Value.int (up2_at e7)) ?_
    refine v_aald 20 (k := hn) 23 (by decide) rfl (by decide) dX1_takeLatest_19 rfl rfl (by omega) eM ?_
    refine v_invV 23 M_X3_copyFrom [rfv x 23] (by decide) rfl (by decide) rfl dX1_takeLatest_20 rfl ml_X1_25 im_X3_copyFrom se_X3_copyFrom mc_X3_copyFrom (by decide) (Nat.le_of_ble_eq_true rfl) (sp_X3_copyFrom_1_23 (fun Ic fc cc => ?_))
    refine v_vret rfl dX1_takeLatest_23 ?_
    refine hQ Ic (fun a ha => ?_) (HC_take hc e7 fc) (cc.rc (f := H hn) ?_ hw)
    · rw [fc a (by omega), up2_row e7 (by omega)]
    · have h9 := hc.2.2.2.2 hn (by omega)
      rw [eM] at h9
      exact h9.same (fun a q1 q2 => up2_row e7 (by omega))
theorem HR_recA {H : Hs} {hn : Nat} {I Ij I1 : Iv} {f : Vw} (hr : HR H hn I) (hw : HW H hn) (w : Wf f) (r : RR (I 41) f) (h4 : hn ≠ 4) (hA : ∀ q, q < 83 → Ij 43 (83 * hn + q) = I 41 q) (hF : ∀ a q, (a ≠ 43 ∨ q < 83 * hn) → Ij a q = I a q) (e : I1 = up2 Ij 40 4 (nI (hn + 1))) : HR (recH H hn f) (recN hn) I1 := by
  obtain ⟨h1, h2, h3⟩ := hr
  refine ⟨by unfold recN; rw [if_neg h4]; omega, by rw [recN, if_neg h4]; exact up2_at e, fun i hi => ?_⟩
  rw [recN, if_neg h4] at hi
  unfold recH
  rw [if_neg h4, up2_row e (show (43 : Nat) ≠ 40 by decide)]
  by_cases q : i = hn
  · subst q
    simp only [if_true]
    exact r.on w (fun j hj => hA j hj)
  · simp only [q, if_false]
    exact (h3 i (by omega)).on (hw i (by omega)) (fun j hj => hF 43 _ (Or.inr (by omega)))
theorem HR_recB {H : Hs} {I Ik Id Ij I1 : Iv} {f : Vw} (hr : HR H 4 I) (hw : HW H 4) (w : Wf f) (r : RR (I 41) f) (gA : ∀ q, q < 249 → Ik 43 q = I 43 (q + 83)) (ed : Id = up2 Ik 40 4 (nI 3)) (hA : ∀ q, q < 83 → Ij 43 (83 * 3 + q) = I 41 q) (hF : ∀ a q, (a ≠ 43 ∨ q < 83 * 3) → Ij a q = Id a q) (e : I1 = up2 Ij 40 4 (nI (3 + 1))) : HR (recH H 4 f) (recN 4) I1 := by
  obtain ⟨h1, h2, h3⟩ := hr
  refine ⟨Nat.le_refl 4, up2_at e, fun i hi => ?_⟩
  have hi4 : i < 4 := hi
  unfold recH
  rw [if_pos rfl, up2_row e (show (43 : Nat) ≠ 40 by decide)]
  by_cases q : i = 3
  · subst q
    simp only [if_true]
    exact r.on w (fun j hj => hA j hj)
  · simp only [q, if_false]
    refine (h3 (i + 1) (by omega)).on (hw (i + 1) (by omega)) (fun j hj => ?_)
    show Ij 43 (83 * i + j) = I 43 (83 * (i + 1) + j)
    rw [hF 43 _ (Or.inr (by omega)), up2_off ed (by omega), gA _ (by omega), show 83 * i + j + 83 = 83 * (i + 1) + j by omega]
set_option maxHeartbeats 4000000 in
theorem sp_X8_records {x : Cx} {Q : Qt} {I : Iv} {L : Lv} {P : Pv} {H : Hs} {hn : Nat} {f : Vw} (hr : HR H hn I) (hw : HW H hn) (r : RR (I 41) f) (w : Wf f) (hQ : ∀ I1 : Iv, (∀ a q, a ≠ 43 → (a ≠ 40 ∨ q ≠ 4) → I1 a q = I a q) → HR (recH H hn f) (recN hn) I1 → Q none I1 L P) : SP x M_X8_records [rfv x 40] I L P Q := by
  have hn4 := hr.1
  refine SP.intro [some (rfv x 40), none] pn_X8_records (Nat.le_of_ble_eq_true rfl) rfl ?_
  refine v_aload_n 1 rfl dX8_records_0 rfl ?_
  refine v_get 4 (k := 4) 8 (.int (nI (hn))) (by decide) rfl (by decide) (by decide) dX8_records_1 rfl fl_X8_62 (congrArg Value.int hr.2.1) ?_
  refine v_iconst 5 (nI (4)) (by decide) dX8_records_4 rfl ?_
  refine v_icmpN_ne 48 8 dX8_records_5 (by decide) rfl (by omega) (by omega) (fun h5 => ?_) (fun h5 => ?_)
  · skip
    refine v_iconst 49 (nI (0)) (by decide) dX8_records_48 rfl ?_
    refine v_istore_n 50 [some (rfv x 40), some (.int (nI (0)))] dX8_records_49 rfl (by decide) rfl ?_
    have lq : ∀ j, j ≤ 83 → ∀ Ij : Iv, (∀ q, q < j → Ij 43 (83 * hn + q) = I 41 q) → (∀ a q, (a ≠ 43 ∨ q < 83 * hn) → Ij a q = I a q) → V x M_X8_records Q 50 [some (rfv x 40), some (.int (nI (j)))] [] Ij L P := by
      refine lpU ?_ ?_
      · intro Ij hA hF
        refine v_iload_n 51 rfl dX8_records_50 rfl ?_
        refine v_bipush 53 (nI (83)) (by decide) dX8_records_51 rfl ?_
        refine v_icmpN_ge 82 56 dX8_records_53 (by decide) rfl (by omega) (by omega) (fun h53 => ?_) (fun h53 => ?_)
        · skip
          refine v_aload_n 83 rfl dX8_records_82 rfl ?_
          refine v_dup 84 dX8_records_83 rfl rfl ?_
          refine v_get 87 (k := 4) 8 (.int (nI (hn))) (by decide) rfl (by decide) (by decide) dX8_records_84 rfl fl_X8_62 (congrArg Value.int ((hF 40 4 (Or.inl (by decide))).trans hr.2.1)) ?_
          refine v_iconst 88 (nI (1)) (by decide) dX8_records_87 rfl ?_
          refine v_iadd 89 (nI (hn + 1)) dX8_records_88 rfl (nI_add _ _) ?_
          refine v_putI 92 (k := 4) 8 .int (by decide) rfl (by decide) (by decide) rfl (by decide +kernel) rfl rfl (fun _ _ => rfl) dX8_records_89 rfl fl_X8_62 (fun I89 e89 => ?_)
          refine v_vret rfl dX8_records_92 ?_
          exact hQ I89 (fun a q h1 h2 => (up2_off e89 (by omega)).trans (hF a q (Or.inl h1))) (HR_recA hr hw w r h5 hA hF e89)
        · skip
          exact absurd h53 (by decide)
      · intro j hj ih Ij hA hF
        refine v_iload_n 51 rfl dX8_records_50 rfl ?_
        refine v_bipush 53 (nI (83)) (by decide) dX8_records_51 rfl ?_
        refine v_icmpN_ge 82 56 dX8_records_53 (by decide) rfl (by omega) (by omega) (fun h53 => ?_) (fun h53 => ?_)
        · skip
          exact absurd h53 (by omega)
        · skip
          refine v_aload_n 57 rfl dX8_records_56 rfl ?_
          refine v_get 60 (k := 3) 8 (rfv x 43) (by decide) rfl (by decide) (by decide) dX8_records_57 rfl fl_X8_16 rfl ?_
          refine v_bipush 62 (nI (83)) (by decide) dX8_records_60 rfl ?_
          refine v_aload_n 63 rfl dX8_records_62 rfl ?_
          refine v_get 66 (k := 4) 8 (.int (nI (hn))) (by decide) rfl (by decide) (by decide) dX8_records_63 rfl fl_X8_62 (congrArg Value.int ((hF 40 4 (Or.inl (by decide))).trans hr.2.1)) ?_
          refine v_imul 67 (nI (83 * hn)) dX8_records_66 rfl (pk_mul _ _) ?_
          refine v_iload_n 68 rfl dX8_records_67 rfl ?_
          refine v_iadd 69 (nI ((83 * hn) + j)) dX8_records_68 rfl (nI_add _ _) ?_
          refine v_aload_n 70 rfl dX8_records_69 rfl ?_
          refine v_get 73 (k := 1) 8 (rfv x 41) (by decide) rfl (by decide) (by decide) dX8_records_70 rfl fl_X8_7 rfl ?_
          refine v_iload_n 74 rfl dX8_records_73 rfl ?_
          refine v_iald 75 (k := j) (I 41 j) (by decide) rfl (by decide) dX8_records_74 rfl rfl (by omega) (hF 41 j (Or.inl (by decide))) ?_
          refine v_iast 76 (k := (83 * hn) + j) (I 41 j) (by decide) rfl (by decide) dX8_records_75 rfl rfl (by omega) rfl (fun I75 e75 => ?_)
          refine v_iinc 79 [some (rfv x 40), some (.int (nI (j + 1)))] (nI (j + 1)) dX8_records_76 rfl (by decide) rfl (nI_inc _) rfl ?_
          refine v_goto 50 dX8_records_79 (by decide) ?_
          refine v_drop [some (rfv x 40), some (.int (nI (j + 1)))] (by simp [lsub, smN_s]) ?_
          refine ih I75 (fun q hq => ?_) (fun a q hq => ?_)
          · by_cases z : q = j
            · subst z
              exact up2_at e75
            · exact (up2_off e75 (by omega)).trans (hA q (by omega))
          · exact (up2_off e75 (by omega)).trans (hF a q hq)
    refine v_drop [some (rfv x 40), some (.int (nI (0)))] (by simp [lsub, smN, amN, dbW, mxN]) ?_
    exact lq 0 (Nat.zero_le _) I (fun j h => absurd h (Nat.not_lt_zero j)) (fun a q _ => rfl)
  · skip
    subst h5
    refine v_iconst 9 (nI (0)) (by decide) dX8_records_8 rfl ?_
    refine v_istore_n 10 [some (rfv x 40), some (.int (nI (0)))] dX8_records_9 rfl (by decide) rfl ?_
    have lp : ∀ k, k ≤ 249 → ∀ Ik : Iv, (∀ q, q < k → Ik 43 q = I 43 (q + 83)) → (∀ a q, (a ≠ 43 ∨ k ≤ q) → Ik a q = I a q) → V x M_X8_records Q 10 [some (rfv x 40), some (.int (nI (k)))] [] Ik L P := by
      refine lpU ?_ ?_
      · intro Ik gA gF0
        refine v_iload_n 11 rfl dX8_records_10 rfl ?_
        refine v_sipush 14 (nI (249)) (by decide) dX8_records_11 rfl ?_
        refine v_icmpN_ge 38 17 dX8_records_14 (by decide) rfl (by omega) (by omega) (fun h14 => ?_) (fun h14 => ?_)
        · skip
          have gF : ∀ a q, a ≠ 43 → Ik a q = I a q := fun a q h => gF0 a q (Or.inl h)
          refine v_aload_n 39 rfl dX8_records_38 rfl ?_
          refine v_dup 40 dX8_records_39 rfl rfl ?_
          refine v_get 43 (k := 4) 8 (.int (nI (4))) (by decide) rfl (by decide) (by decide) dX8_records_40 rfl fl_X8_62 (congrArg Value.int ((gF0 40 4 (Or.inl (by decide))).trans hr.2.1)) ?_
          refine v_iconst 44 (nI (1)) (by decide) dX8_records_43 rfl ?_
          refine v_isub 45 (nI (3)) dX8_records_44 rfl (by decide) ?_
          refine v_putI 48 (k := 4) 8 .int (by decide) rfl (by decide) (by decide) rfl (by decide +kernel) rfl rfl (fun _ _ => rfl) dX8_records_45 rfl fl_X8_62 (fun I45 e45 => ?_)
          refine v_iconst 49 (nI (0)) (by decide) dX8_records_48 rfl ?_
          refine v_istore_n 50 [some (rfv x 40), some (.int (nI (0)))] dX8_records_49 rfl (by decide) rfl ?_
          have lq : ∀ j, j ≤ 83 → ∀ Ij : Iv, (∀ q, q < j → Ij 43 (83 * 3 + q) = I 41 q) → (∀ a q, (a ≠ 43 ∨ q < 83 * 3) → Ij a q = I45 a q) → V x M_X8_records Q 50 [some (rfv x 40), some (.int (nI (j)))] [] Ij L P := by
            refine lpU ?_ ?_
            · intro Ij hA hF
              refine v_iload_n 51 rfl dX8_records_50 rfl ?_
              refine v_bipush 53 (nI (83)) (by decide) dX8_records_51 rfl ?_
              refine v_icmpN_ge 82 56 dX8_records_53 (by decide) rfl (by omega) (by omega) (fun h53 => ?_) (fun h53 => ?_)
              · skip
                refine v_aload_n 83 rfl dX8_records_82 rfl ?_
                refine v_dup 84 dX8_records_83 rfl rfl ?_
                refine v_get 87 (k := 4) 8 (.int (nI (3))) (by decide) rfl (by decide) (by decide) dX8_records_84 rfl fl_X8_62 (congrArg Value.int ((hF 40 4 (Or.inl (by decide))).trans (up2_at e45))) ?_
                refine v_iconst 88 (nI (1)) (by decide) dX8_records_87 rfl ?_
                refine v_iadd 89 (nI (3 + 1)) dX8_records_88 rfl (nI_add _ _) ?_
                refine v_putI 92 (k := 4) 8 .int (by decide) rfl (by decide) (by decide) rfl (by decide +kernel) rfl rfl (fun _ _ => rfl) dX8_records_89 rfl fl_X8_62 (fun I89 e89 => ?_)
                refine v_vret rfl dX8_records_92 ?_
                exact hQ I89 (fun a q h1 h2 => (up2_off e89 (by omega)).trans ((hF a q (Or.inl h1)).trans ((up2_off e45 (by omega)).trans (gF a q h1)))) (HR_recB hr hw w r gA e45 hA hF e89)
              · skip
                exact absurd h53 (by decide)
            · intro j hj ih Ij hA hF
              refine v_iload_n 51 rfl dX8_records_50 rfl ?_
              refine v_bipush 53 (nI (83)) (by decide) dX8_records_51 rfl ?_
              refine v_icmpN_ge 82 56 dX8_records_53 (by decide) rfl (by omega) (by omega) (fun h53 => ?_) (fun h53 => ?_)
              · skip
                exact absurd h53 (by omega)
              · skip
                refine v_aload_n 57 rfl dX8_records_56 rfl ?_
                refine v_get 60 (k := 3) 8 (rfv x 43) (by decide) rfl (by decide) (by decide) dX8_records_57 rfl fl_X8_16 rfl ?_
                refine v_bipush 62 (nI (83)) (by decide) dX8_records_60 rfl ?_
                refine v_aload_n 63 rfl dX8_records_62 rfl ?_
                refine v_get 66 (k := 4) 8 (.int (nI (3))) (by decide) rfl (by decide) (by decide) dX8_records_63 rfl fl_X8_62 (congrArg Value.int ((hF 40 4 (Or.inl (by decide))).trans (up2_at e45))) ?_
                refine v_imul 67 (nI (83 * 3)) dX8_records_66 rfl (pk_mul _ _) ?_
                refine v_iload_n 68 rfl dX8_records_67 rfl ?_
                refine v_iadd 69 (nI ((83 * 3) + j)) dX8_records_68 rfl (nI_add _ _) ?_
                refine v_aload_n 70 rfl dX8_records_69 rfl ?_
                refine v_get 73 (k := 1) 8 (rfv x 41) (by decide) rfl (by decide) (by decide) dX8_records_70 rfl fl_X8_7 rfl ?_
                refine v_iload_n 74 rfl dX8_records_73 rfl ?_
                refine v_iald 75 (k := j) (I 41 j) (by decide) rfl (by decide) dX8_records_74 rfl rfl (by omega) ((hF 41 j (Or.inl (by decide))).trans ((up2_off e45 (by omega)).trans (gF 41 j (by decide)))) ?_
                refine v_iast 76 (k := (83 * 3) + j) (I 41 j) (by decide) rfl (by decide) dX8_records_75 rfl rfl (by omega) rfl (fun I75 e75 => ?_)
                refine v_iinc 79 [some (rfv x 40), some (.int (nI (j + 1)))] (nI (j + 1)) dX8_records_76 rfl (by decide) rfl (nI_inc _) rfl ?_
                refine v_goto 50 dX8_records_79 (by decide) ?_
                refine v_drop [some (rfv x 40), some (.int (nI (j + 1)))] (by simp [lsub, smN_s]) ?_
                refine ih I75 (fun q hq => ?_) (fun a q hq => ?_)
                · by_cases z : q = j
                  · subst z
                    exact up2_at e75
                  · exact (up2_off e75 (by omega)).trans (hA q (by omega))
                · exact (up2_off e75 (by omega)).trans (hF a q hq)
          refine v_drop [some (rfv x 40), some (.int (nI (0)))] (by simp [lsub, smN, amN, dbW, mxN]) ?_
          exact lq 0 (Nat.zero_le _) I45 (fun j h => absurd h (Nat.not_lt_zero j)) (fun a q _ => rfl)
        · skip
          exact absurd h14 (by decide)
      · intro k hk ih Ik gA gF0
        refine v_iload_n 11 rfl dX8_records_10 rfl ?_
        refine v_sipush 14 (nI (249)) (by decide) dX8_records_11 rfl ?_
        refine v_icmpN_ge 38 17 dX8_records_14 (by decide) rfl (by omega) (by omega) (fun h14 => ?_) (fun h14 => ?_)
        · skip
          exact absurd h14 (by omega)
        · skip
          refine v_aload_n 18 rfl dX8_records_17 rfl ?_
          refine v_get 21 (k := 3) 8 (rfv x 43) (by decide) rfl (by decide) (by decide) dX8_records_18 rfl fl_X8_16 rfl ?_
          refine v_iload_n 22 rfl dX8_records_21 rfl ?_
          refine v_aload_n 23 rfl dX8_records_22 rfl ?_
          refine v_get 26 (k := 3) 8 (rfv x 43) (by decide) rfl (by decide) (by decide) dX8_records_23 rfl fl_X8_16 rfl ?_
          refine v_iload_n 27 rfl dX8_records_26 rfl ?_
          refine v_bipush 29 (nI (83)) (by decide) dX8_records_27 rfl ?_
          refine v_iadd 30 (nI (k + 83)) dX8_records_29 rfl (nI_add _ _) ?_
          refine v_iald 31 (k := k + 83) (I 43 (k + 83)) (by decide) rfl (by decide) dX8_records_30 rfl rfl (by omega) (gF0 43 (k + 83) (Or.inr (by omega))) ?_
          refine v_iast 32 (k := k) (I 43 (k + 83)) (by decide) rfl (by decide) dX8_records_31 rfl rfl (by omega) rfl (fun I31 e31 => ?_)
          refine v_iinc 35 [some (rfv x 40), some (.int (nI (k + 1)))] (nI (k + 1)) dX8_records_32 rfl (by decide) rfl (nI_inc _) rfl ?_
          refine v_goto 10 dX8_records_35 (by decide) ?_
          refine v_drop [some (rfv x 40), some (.int (nI (k + 1)))] (by simp [lsub, smN_s]) ?_
          refine ih I31 (fun q hq => ?_) (fun a q hq => (up2_off e31 (by omega)).trans (gF0 a q (by omega)))
          by_cases z : q = k
          · subst z
            exact up2_at e31
          · exact (up2_off e31 (by omega)).trans (gA q (by omega))
    refine v_drop [some (rfv x 40), some (.int (nI (0)))] (by simp [lsub, smN, amN, dbW, mxN]) ?_
    exact lp 0 (Nat.zero_le _) I (fun j h => absurd h (Nat.not_lt_zero j)) (fun a q _ => rfl)
end
