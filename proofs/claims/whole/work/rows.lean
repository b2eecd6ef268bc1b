section
-- ===== PART A: goes FIRST, ahead of the names: the tables' words, and 'selects' of the private methods out of them =====
/-- a private method of a class that the tables say can be made, by its rows of tables_1 -/
def lw_okq (q : MethodName × Nat) : Prop := (q.1.cls ≠ "java/lang/invoke/MethodHandle" ∧ q.1.cls ≠ "java/lang/invoke/VarHandle") ∧ Cond.instantiable q.1.cls q.2 ∈ tables_1 ∧ Cond.privateMethod q.1 ∈ tables_1 ∧ Cond.instanceMethod q.1 ∈ tables_1
theorem lw_p0 : lw_okq (⟨"HiddenRuns$History", "dropOldest", "()V"⟩, 2) := ⟨⟨by decide +kernel, by decide +kernel⟩, List.mem_of_getElem? (i := 92) (by decide +kernel), List.mem_of_getElem? (i := 235) (by decide +kernel), List.mem_of_getElem? (i := 236) (by decide +kernel)⟩
theorem lw_p1 : lw_okq (⟨"HiddenRuns$Model", "addInto", "(II)V"⟩, 6) := ⟨⟨by decide +kernel, by decide +kernel⟩, List.mem_of_getElem? (i := 23) (by decide +kernel), List.mem_of_getElem? (i := 282) (by decide +kernel), List.mem_of_getElem? (i := 283) (by decide +kernel)⟩
theorem lw_p2 : lw_okq (⟨"HiddenRuns$Sums", "aheadOf", "(II)J"⟩, 6) := ⟨⟨by decide +kernel, by decide +kernel⟩, List.mem_of_getElem? (i := 64) (by decide +kernel), List.mem_of_getElem? (i := 354) (by decide +kernel), List.mem_of_getElem? (i := 355) (by decide +kernel)⟩
theorem lw_p3 : lw_okq (⟨"HiddenRuns$Sums", "behindOf", "(II)J"⟩, 6) := ⟨⟨by decide +kernel, by decide +kernel⟩, List.mem_of_getElem? (i := 64) (by decide +kernel), List.mem_of_getElem? (i := 375) (by decide +kernel), List.mem_of_getElem? (i := 376) (by decide +kernel)⟩
theorem lw_p4 : lw_okq (⟨"HiddenRuns$Sums", "stepBehind", "(III)J"⟩, 6) := ⟨⟨by decide +kernel, by decide +kernel⟩, List.mem_of_getElem? (i := 64) (by decide +kernel), List.mem_of_getElem? (i := 379) (by decide +kernel), List.mem_of_getElem? (i := 380) (by decide +kernel)⟩
theorem lw_p5 : lw_okq (⟨"HiddenRuns$Learner", "countSample", "()V"⟩, 4) := ⟨⟨by decide +kernel, by decide +kernel⟩, List.mem_of_getElem? (i := 162) (by decide +kernel), List.mem_of_getElem? (i := 387) (by decide +kernel), List.mem_of_getElem? (i := 388) (by decide +kernel)⟩
theorem lw_p6 : lw_okq (⟨"HiddenRuns$Learner", "addCount", "(IJ)V"⟩, 4) := ⟨⟨by decide +kernel, by decide +kernel⟩, List.mem_of_getElem? (i := 162) (by decide +kernel), List.mem_of_getElem? (i := 393) (by decide +kernel), List.mem_of_getElem? (i := 394) (by decide +kernel)⟩
theorem lw_p7 : lw_okq (⟨"HiddenRuns$Learner", "makeFamily", "(II)V"⟩, 4) := ⟨⟨by decide +kernel, by decide +kernel⟩, List.mem_of_getElem? (i := 162) (by decide +kernel), List.mem_of_getElem? (i := 411) (by decide +kernel), List.mem_of_getElem? (i := 412) (by decide +kernel)⟩
theorem lw_p8 : lw_okq (⟨"HiddenRuns$Learner", "differs", "()Z"⟩, 4) := ⟨⟨by decide +kernel, by decide +kernel⟩, List.mem_of_getElem? (i := 162) (by decide +kernel), List.mem_of_getElem? (i := 420) (by decide +kernel), List.mem_of_getElem? (i := 421) (by decide +kernel)⟩
theorem lw_p9 : lw_okq (⟨"HiddenRuns$RunOrder", "partsBehind", "(II)I"⟩, 3) := ⟨⟨by decide +kernel, by decide +kernel⟩, List.mem_of_getElem? (i := 145) (by decide +kernel), List.mem_of_getElem? (i := 490) (by decide +kernel), List.mem_of_getElem? (i := 491) (by decide +kernel)⟩
theorem lw_p10 : lw_okq (⟨"HiddenRuns$RunOrder", "entering", "(III)I"⟩, 3) := ⟨⟨by decide +kernel, by decide +kernel⟩, List.mem_of_getElem? (i := 145) (by decide +kernel), List.mem_of_getElem? (i := 494) (by decide +kernel), List.mem_of_getElem? (i := 495) (by decide +kernel)⟩
theorem lw_p11 : lw_okq (⟨"HiddenRuns$BestRun", "nextOf", "(II)I"⟩, 4) := ⟨⟨by decide +kernel, by decide +kernel⟩, List.mem_of_getElem? (i := 124) (by decide +kernel), List.mem_of_getElem? (i := 505) (by decide +kernel), List.mem_of_getElem? (i := 506) (by decide +kernel)⟩
theorem lw_p12 : lw_okq (⟨"HiddenRuns$BestRun", "going", "(III)J"⟩, 4) := ⟨⟨by decide +kernel, by decide +kernel⟩, List.mem_of_getElem? (i := 124) (by decide +kernel), List.mem_of_getElem? (i := 509) (by decide +kernel), List.mem_of_getElem? (i := 510) (by decide +kernel)⟩
theorem lw_p13 : lw_okq (⟨"HiddenRuns$BestRun", "firstOf", "()I"⟩, 4) := ⟨⟨by decide +kernel, by decide +kernel⟩, List.mem_of_getElem? (i := 124) (by decide +kernel), List.mem_of_getElem? (i := 515) (by decide +kernel), List.mem_of_getElem? (i := 516) (by decide +kernel)⟩
theorem lw_p14 : lw_okq (⟨"HiddenRuns$BestRun", "beginning", "(I)J"⟩, 4) := ⟨⟨by decide +kernel, by decide +kernel⟩, List.mem_of_getElem? (i := 124) (by decide +kernel), List.mem_of_getElem? (i := 519) (by decide +kernel), List.mem_of_getElem? (i := 520) (by decide +kernel)⟩
theorem lw_p15 : lw_okq (⟨"HiddenRuns", "allDoubtful", "()I"⟩, 9) := ⟨⟨by decide +kernel, by decide +kernel⟩, List.mem_of_getElem? (i := 15) (by decide +kernel), List.mem_of_getElem? (i := 578) (by decide +kernel), List.mem_of_getElem? (i := 579) (by decide +kernel)⟩
def lw_privs_1 : List (MethodName × Nat) := [(⟨"HiddenRuns$History", "dropOldest", "()V"⟩, 2), (⟨"HiddenRuns$Model", "addInto", "(II)V"⟩, 6), (⟨"HiddenRuns$Sums", "aheadOf", "(II)J"⟩, 6), (⟨"HiddenRuns$Sums", "behindOf", "(II)J"⟩, 6), (⟨"HiddenRuns$Sums", "stepBehind", "(III)J"⟩, 6), (⟨"HiddenRuns$Learner", "countSample", "()V"⟩, 4), (⟨"HiddenRuns$Learner", "addCount", "(IJ)V"⟩, 4), (⟨"HiddenRuns$Learner", "makeFamily", "(II)V"⟩, 4), (⟨"HiddenRuns$Learner", "differs", "()Z"⟩, 4), (⟨"HiddenRuns$RunOrder", "partsBehind", "(II)I"⟩, 3), (⟨"HiddenRuns$RunOrder", "entering", "(III)I"⟩, 3), (⟨"HiddenRuns$BestRun", "nextOf", "(II)I"⟩, 4), (⟨"HiddenRuns$BestRun", "going", "(III)J"⟩, 4), (⟨"HiddenRuns$BestRun", "firstOf", "()I"⟩, 4), (⟨"HiddenRuns$BestRun", "beginning", "(I)J"⟩, 4), (⟨"HiddenRuns", "allDoubtful", "()I"⟩, 9)]
theorem lw_r1 : ∀ q ∈ lw_privs_1, lw_okq q := List.forall_mem_cons.mpr ⟨lw_p0, List.forall_mem_cons.mpr ⟨lw_p1, List.forall_mem_cons.mpr ⟨lw_p2, List.forall_mem_cons.mpr ⟨lw_p3, List.forall_mem_cons.mpr ⟨lw_p4, List.forall_mem_cons.mpr ⟨lw_p5, List.forall_mem_cons.mpr ⟨lw_p6, List.forall_mem_cons.mpr ⟨lw_p7, List.forall_mem_cons.mpr ⟨lw_p8, List.forall_mem_cons.mpr ⟨lw_p9, List.forall_mem_cons.mpr ⟨lw_p10, List.forall_mem_cons.mpr ⟨lw_p11, List.forall_mem_cons.mpr ⟨lw_p12, List.forall_mem_cons.mpr ⟨lw_p13, List.forall_mem_cons.mpr ⟨lw_p14, List.forall_mem_cons.mpr ⟨lw_p15, fun _ h => absurd h List.not_mem_nil⟩⟩⟩⟩⟩⟩⟩⟩⟩⟩⟩⟩⟩⟩⟩⟩
theorem lw_p16 : lw_okq (⟨"HiddenRuns", "samplesWithoutTotal", "()I"⟩, 9) := ⟨⟨by decide +kernel, by decide +kernel⟩, List.mem_of_getElem? (i := 15) (by decide +kernel), List.mem_of_getElem? (i := 588) (by decide +kernel), List.mem_of_getElem? (i := 589) (by decide +kernel)⟩
theorem lw_p17 : lw_okq (⟨"HiddenRuns", "placesOffBest", "()I"⟩, 9) := ⟨⟨by decide +kernel, by decide +kernel⟩, List.mem_of_getElem? (i := 15) (by decide +kernel), List.mem_of_getElem? (i := 592) (by decide +kernel), List.mem_of_getElem? (i := 593) (by decide +kernel)⟩
theorem lw_p18 : lw_okq (⟨"HiddenRuns", "placesOffPath", "(I)I"⟩, 9) := ⟨⟨by decide +kernel, by decide +kernel⟩, List.mem_of_getElem? (i := 15) (by decide +kernel), List.mem_of_getElem? (i := 596) (by decide +kernel), List.mem_of_getElem? (i := 597) (by decide +kernel)⟩
theorem lw_p19 : lw_okq (⟨"HiddenRunsModel", "fills", "(I)V"⟩, 20) := ⟨⟨by decide +kernel, by decide +kernel⟩, List.mem_of_getElem? (i := 600) (by decide +kernel), List.mem_of_getElem? (i := 606) (by decide +kernel), List.mem_of_getElem? (i := 607) (by decide +kernel)⟩
theorem lw_p20 : lw_okq (⟨"HiddenRunsModel", "placeOf", "(III)I"⟩, 20) := ⟨⟨by decide +kernel, by decide +kernel⟩, List.mem_of_getElem? (i := 600) (by decide +kernel), List.mem_of_getElem? (i := 675) (by decide +kernel), List.mem_of_getElem? (i := 676) (by decide +kernel)⟩
theorem lw_p21 : lw_okq (⟨"HiddenRunsModel", "isState", "(I)Z"⟩, 20) := ⟨⟨by decide +kernel, by decide +kernel⟩, List.mem_of_getElem? (i := 600) (by decide +kernel), List.mem_of_getElem? (i := 682) (by decide +kernel), List.mem_of_getElem? (i := 683) (by decide +kernel)⟩
theorem lw_p22 : lw_okq (⟨"HiddenRunsModel", "records", "()V"⟩, 20) := ⟨⟨by decide +kernel, by decide +kernel⟩, List.mem_of_getElem? (i := 600) (by decide +kernel), List.mem_of_getElem? (i := 686) (by decide +kernel), List.mem_of_getElem? (i := 687) (by decide +kernel)⟩
theorem lw_p23 : lw_okq (⟨"HiddenRunsModel", "go", "(II)I"⟩, 20) := ⟨⟨by decide +kernel, by decide +kernel⟩, List.mem_of_getElem? (i := 600) (by decide +kernel), List.mem_of_getElem? (i := 698) (by decide +kernel), List.mem_of_getElem? (i := 699) (by decide +kernel)⟩
theorem lw_p24 : lw_okq (⟨"HiddenRunsModel", "show", "(II)I"⟩, 20) := ⟨⟨by decide +kernel, by decide +kernel⟩, List.mem_of_getElem? (i := 600) (by decide +kernel), List.mem_of_getElem? (i := 702) (by decide +kernel), List.mem_of_getElem? (i := 703) (by decide +kernel)⟩
theorem lw_p25 : lw_okq (⟨"HiddenRunsModel", "drops", "(I)V"⟩, 20) := ⟨⟨by decide +kernel, by decide +kernel⟩, List.mem_of_getElem? (i := 600) (by decide +kernel), List.mem_of_getElem? (i := 713) (by decide +kernel), List.mem_of_getElem? (i := 714) (by decide +kernel)⟩
theorem lw_p26 : lw_okq (⟨"HiddenRunsModel", "clears", "(I)V"⟩, 20) := ⟨⟨by decide +kernel, by decide +kernel⟩, List.mem_of_getElem? (i := 600) (by decide +kernel), List.mem_of_getElem? (i := 717) (by decide +kernel), List.mem_of_getElem? (i := 718) (by decide +kernel)⟩
theorem lw_p27 : lw_okq (⟨"HiddenRunsModel", "reads", "()I"⟩, 20) := ⟨⟨by decide +kernel, by decide +kernel⟩, List.mem_of_getElem? (i := 600) (by decide +kernel), List.mem_of_getElem? (i := 733) (by decide +kernel), List.mem_of_getElem? (i := 734) (by decide +kernel)⟩
theorem lw_p28 : lw_okq (⟨"HiddenRunsModel", "readsSample", "()V"⟩, 20) := ⟨⟨by decide +kernel, by decide +kernel⟩, List.mem_of_getElem? (i := 600) (by decide +kernel), List.mem_of_getElem? (i := 737) (by decide +kernel), List.mem_of_getElem? (i := 738) (by decide +kernel)⟩
theorem lw_p29 : lw_okq (⟨"HiddenRunsModel", "letter", "()I"⟩, 20) := ⟨⟨by decide +kernel, by decide +kernel⟩, List.mem_of_getElem? (i := 600) (by decide +kernel), List.mem_of_getElem? (i := 741) (by decide +kernel), List.mem_of_getElem? (i := 742) (by decide +kernel)⟩
theorem lw_p30 : lw_okq (⟨"HiddenRunsModel", "isSample", "(I)Z"⟩, 20) := ⟨⟨by decide +kernel, by decide +kernel⟩, List.mem_of_getElem? (i := 600) (by decide +kernel), List.mem_of_getElem? (i := 749) (by decide +kernel), List.mem_of_getElem? (i := 750) (by decide +kernel)⟩
theorem lw_p31 : lw_okq (⟨"HiddenRunsModel", "learnsOnce", "()Z"⟩, 20) := ⟨⟨by decide +kernel, by decide +kernel⟩, List.mem_of_getElem? (i := 600) (by decide +kernel), List.mem_of_getElem? (i := 757) (by decide +kernel), List.mem_of_getElem? (i := 758) (by decide +kernel)⟩
def lw_privs_2 : List (MethodName × Nat) := [(⟨"HiddenRuns", "samplesWithoutTotal", "()I"⟩, 9), (⟨"HiddenRuns", "placesOffBest", "()I"⟩, 9), (⟨"HiddenRuns", "placesOffPath", "(I)I"⟩, 9), (⟨"HiddenRunsModel", "fills", "(I)V"⟩, 20), (⟨"HiddenRunsModel", "placeOf", "(III)I"⟩, 20), (⟨"HiddenRunsModel", "isState", "(I)Z"⟩, 20), (⟨"HiddenRunsModel", "records", "()V"⟩, 20), (⟨"HiddenRunsModel", "go", "(II)I"⟩, 20), (⟨"HiddenRunsModel", "show", "(II)I"⟩, 20), (⟨"HiddenRunsModel", "drops", "(I)V"⟩, 20), (⟨"HiddenRunsModel", "clears", "(I)V"⟩, 20), (⟨"HiddenRunsModel", "reads", "()I"⟩, 20), (⟨"HiddenRunsModel", "readsSample", "()V"⟩, 20), (⟨"HiddenRunsModel", "letter", "()I"⟩, 20), (⟨"HiddenRunsModel", "isSample", "(I)Z"⟩, 20), (⟨"HiddenRunsModel", "learnsOnce", "()Z"⟩, 20)]
theorem lw_r2 : ∀ q ∈ lw_privs_2, lw_okq q := List.forall_mem_cons.mpr ⟨lw_p16, List.forall_mem_cons.mpr ⟨lw_p17, List.forall_mem_cons.mpr ⟨lw_p18, List.forall_mem_cons.mpr ⟨lw_p19, List.forall_mem_cons.mpr ⟨lw_p20, List.forall_mem_cons.mpr ⟨lw_p21, List.forall_mem_cons.mpr ⟨lw_p22, List.forall_mem_cons.mpr ⟨lw_p23, List.forall_mem_cons.mpr ⟨lw_p24, List.forall_mem_cons.mpr ⟨lw_p25, List.forall_mem_cons.mpr ⟨lw_p26, List.forall_mem_cons.mpr ⟨lw_p27, List.forall_mem_cons.mpr ⟨lw_p28, List.forall_mem_cons.mpr ⟨lw_p29, List.forall_mem_cons.mpr ⟨lw_p30, List.forall_mem_cons.mpr ⟨lw_p31, fun _ h => absurd h List.not_mem_nil⟩⟩⟩⟩⟩⟩⟩⟩⟩⟩⟩⟩⟩⟩⟩⟩
theorem lw_p32 : lw_okq (⟨"HiddenRunsModel", "laysRuns", "(I)V"⟩, 20) := ⟨⟨by decide +kernel, by decide +kernel⟩, List.mem_of_getElem? (i := 600) (by decide +kernel), List.mem_of_getElem? (i := 761) (by decide +kernel), List.mem_of_getElem? (i := 762) (by decide +kernel)⟩
theorem lw_p33 : lw_okq (⟨"HiddenRunsModel", "placesOf", "(I)I"⟩, 20) := ⟨⟨by decide +kernel, by decide +kernel⟩, List.mem_of_getElem? (i := 600) (by decide +kernel), List.mem_of_getElem? (i := 765) (by decide +kernel), List.mem_of_getElem? (i := 766) (by decide +kernel)⟩
theorem lw_p34 : lw_okq (⟨"HiddenRunsModel", "signAt", "(II)I"⟩, 20) := ⟨⟨by decide +kernel, by decide +kernel⟩, List.mem_of_getElem? (i := 600) (by decide +kernel), List.mem_of_getElem? (i := 769) (by decide +kernel), List.mem_of_getElem? (i := 770) (by decide +kernel)⟩
theorem lw_p35 : lw_okq (⟨"HiddenRunsModel", "laysBehind", "(III)V"⟩, 20) := ⟨⟨by decide +kernel, by decide +kernel⟩, List.mem_of_getElem? (i := 600) (by decide +kernel), List.mem_of_getElem? (i := 773) (by decide +kernel), List.mem_of_getElem? (i := 774) (by decide +kernel)⟩
theorem lw_p36 : lw_okq (⟨"HiddenRunsModel", "step", "(IIII)J"⟩, 20) := ⟨⟨by decide +kernel, by decide +kernel⟩, List.mem_of_getElem? (i := 600) (by decide +kernel), List.mem_of_getElem? (i := 777) (by decide +kernel), List.mem_of_getElem? (i := 778) (by decide +kernel)⟩
theorem lw_p37 : lw_okq (⟨"HiddenRunsModel", "total", "()J"⟩, 20) := ⟨⟨by decide +kernel, by decide +kernel⟩, List.mem_of_getElem? (i := 600) (by decide +kernel), List.mem_of_getElem? (i := 781) (by decide +kernel), List.mem_of_getElem? (i := 782) (by decide +kernel)⟩
theorem lw_p38 : lw_okq (⟨"HiddenRunsModel", "weightAt", "(II)J"⟩, 20) := ⟨⟨by decide +kernel, by decide +kernel⟩, List.mem_of_getElem? (i := 600) (by decide +kernel), List.mem_of_getElem? (i := 785) (by decide +kernel), List.mem_of_getElem? (i := 786) (by decide +kernel)⟩
theorem lw_p39 : lw_okq (⟨"HiddenRunsModel", "counts", "(IJ)V"⟩, 20) := ⟨⟨by decide +kernel, by decide +kernel⟩, List.mem_of_getElem? (i := 600) (by decide +kernel), List.mem_of_getElem? (i := 789) (by decide +kernel), List.mem_of_getElem? (i := 790) (by decide +kernel)⟩
theorem lw_p40 : lw_okq (⟨"HiddenRunsModel", "learnsFamily", "(II)Z"⟩, 20) := ⟨⟨by decide +kernel, by decide +kernel⟩, List.mem_of_getElem? (i := 600) (by decide +kernel), List.mem_of_getElem? (i := 797) (by decide +kernel), List.mem_of_getElem? (i := 798) (by decide +kernel)⟩
theorem lw_p41 : lw_okq (⟨"HiddenRunsModel", "swapsAside", "()V"⟩, 20) := ⟨⟨by decide +kernel, by decide +kernel⟩, List.mem_of_getElem? (i := 600) (by decide +kernel), List.mem_of_getElem? (i := 803) (by decide +kernel), List.mem_of_getElem? (i := 804) (by decide +kernel)⟩
theorem lw_p42 : lw_okq (⟨"HiddenRunsModel", "oddsOf", "(III)I"⟩, 20) := ⟨⟨by decide +kernel, by decide +kernel⟩, List.mem_of_getElem? (i := 600) (by decide +kernel), List.mem_of_getElem? (i := 831) (by decide +kernel), List.mem_of_getElem? (i := 832) (by decide +kernel)⟩
theorem lw_p43 : lw_okq (⟨"HiddenRunsModel", "laysOdds", "(II)V"⟩, 20) := ⟨⟨by decide +kernel, by decide +kernel⟩, List.mem_of_getElem? (i := 600) (by decide +kernel), List.mem_of_getElem? (i := 835) (by decide +kernel), List.mem_of_getElem? (i := 836) (by decide +kernel)⟩
theorem lw_p44 : lw_okq (⟨"HiddenRunsModel", "isPlace", "(II)Z"⟩, 20) := ⟨⟨by decide +kernel, by decide +kernel⟩, List.mem_of_getElem? (i := 600) (by decide +kernel), List.mem_of_getElem? (i := 843) (by decide +kernel), List.mem_of_getElem? (i := 844) (by decide +kernel)⟩
theorem lw_p45 : lw_okq (⟨"HiddenRunsModel", "runsThatCount", "()J"⟩, 20) := ⟨⟨by decide +kernel, by decide +kernel⟩, List.mem_of_getElem? (i := 600) (by decide +kernel), List.mem_of_getElem? (i := 853) (by decide +kernel), List.mem_of_getElem? (i := 854) (by decide +kernel)⟩
theorem lw_p46 : lw_okq (⟨"HiddenRunsModel", "bestWeight", "()J"⟩, 20) := ⟨⟨by decide +kernel, by decide +kernel⟩, List.mem_of_getElem? (i := 600) (by decide +kernel), List.mem_of_getElem? (i := 857) (by decide +kernel), List.mem_of_getElem? (i := 858) (by decide +kernel)⟩
theorem lw_p47 : lw_okq (⟨"HiddenRunsModel", "bestAt", "(II)I"⟩, 20) := ⟨⟨by decide +kernel, by decide +kernel⟩, List.mem_of_getElem? (i := 600) (by decide +kernel), List.mem_of_getElem? (i := 865) (by decide +kernel), List.mem_of_getElem? (i := 866) (by decide +kernel)⟩
def lw_privs_3 : List (MethodName × Nat) := [(⟨"HiddenRunsModel", "laysRuns", "(I)V"⟩, 20), (⟨"HiddenRunsModel", "placesOf", "(I)I"⟩, 20), (⟨"HiddenRunsModel", "signAt", "(II)I"⟩, 20), (⟨"HiddenRunsModel", "laysBehind", "(III)V"⟩, 20), (⟨"HiddenRunsModel", "step", "(IIII)J"⟩, 20), (⟨"HiddenRunsModel", "total", "()J"⟩, 20), (⟨"HiddenRunsModel", "weightAt", "(II)J"⟩, 20), (⟨"HiddenRunsModel", "counts", "(IJ)V"⟩, 20), (⟨"HiddenRunsModel", "learnsFamily", "(II)Z"⟩, 20), (⟨"HiddenRunsModel", "swapsAside", "()V"⟩, 20), (⟨"HiddenRunsModel", "oddsOf", "(III)I"⟩, 20), (⟨"HiddenRunsModel", "laysOdds", "(II)V"⟩, 20), (⟨"HiddenRunsModel", "isPlace", "(II)Z"⟩, 20), (⟨"HiddenRunsModel", "runsThatCount", "()J"⟩, 20), (⟨"HiddenRunsModel", "bestWeight", "()J"⟩, 20), (⟨"HiddenRunsModel", "bestAt", "(II)I"⟩, 20)]
theorem lw_r3 : ∀ q ∈ lw_privs_3, lw_okq q := List.forall_mem_cons.mpr ⟨lw_p32, List.forall_mem_cons.mpr ⟨lw_p33, List.forall_mem_cons.mpr ⟨lw_p34, List.forall_mem_cons.mpr ⟨lw_p35, List.forall_mem_cons.mpr ⟨lw_p36, List.forall_mem_cons.mpr ⟨lw_p37, List.forall_mem_cons.mpr ⟨lw_p38, List.forall_mem_cons.mpr ⟨lw_p39, List.forall_mem_cons.mpr ⟨lw_p40, List.forall_mem_cons.mpr ⟨lw_p41, List.forall_mem_cons.mpr ⟨lw_p42, List.forall_mem_cons.mpr ⟨lw_p43, List.forall_mem_cons.mpr ⟨lw_p44, List.forall_mem_cons.mpr ⟨lw_p45, List.forall_mem_cons.mpr ⟨lw_p46, List.forall_mem_cons.mpr ⟨lw_p47, fun _ h => absurd h List.not_mem_nil⟩⟩⟩⟩⟩⟩⟩⟩⟩⟩⟩⟩⟩⟩⟩⟩
theorem lw_p48 : lw_okq (⟨"HiddenRunsModel", "likeliestAt", "(I)I"⟩, 20) := ⟨⟨by decide +kernel, by decide +kernel⟩, List.mem_of_getElem? (i := 600) (by decide +kernel), List.mem_of_getElem? (i := 877) (by decide +kernel), List.mem_of_getElem? (i := 878) (by decide +kernel)⟩
theorem lw_p49 : lw_okq (⟨"HiddenRunsModel", "doubts", "(I)I"⟩, 20) := ⟨⟨by decide +kernel, by decide +kernel⟩, List.mem_of_getElem? (i := 600) (by decide +kernel), List.mem_of_getElem? (i := 885) (by decide +kernel), List.mem_of_getElem? (i := 886) (by decide +kernel)⟩
theorem lw_p50 : lw_okq (⟨"HiddenRunsModel", "runAt", "(III)I"⟩, 20) := ⟨⟨by decide +kernel, by decide +kernel⟩, List.mem_of_getElem? (i := 600) (by decide +kernel), List.mem_of_getElem? (i := 893) (by decide +kernel), List.mem_of_getElem? (i := 894) (by decide +kernel)⟩
theorem lw_p51 : lw_okq (⟨"HiddenRunsModel", "weightOfNext", "(II)J"⟩, 20) := ⟨⟨by decide +kernel, by decide +kernel⟩, List.mem_of_getElem? (i := 600) (by decide +kernel), List.mem_of_getElem? (i := 901) (by decide +kernel), List.mem_of_getElem? (i := 902) (by decide +kernel)⟩
theorem lw_p52 : lw_okq (⟨"HiddenRunsModel", "signs", "()I"⟩, 20) := ⟨⟨by decide +kernel, by decide +kernel⟩, List.mem_of_getElem? (i := 600) (by decide +kernel), List.mem_of_getElem? (i := 909) (by decide +kernel), List.mem_of_getElem? (i := 910) (by decide +kernel)⟩
theorem lw_p53 : lw_okq (⟨"HiddenRunsModel", "overSamples", "(I)I"⟩, 20) := ⟨⟨by decide +kernel, by decide +kernel⟩, List.mem_of_getElem? (i := 600) (by decide +kernel), List.mem_of_getElem? (i := 913) (by decide +kernel), List.mem_of_getElem? (i := 914) (by decide +kernel)⟩
def lw_privs_4 : List (MethodName × Nat) := [(⟨"HiddenRunsModel", "likeliestAt", "(I)I"⟩, 20), (⟨"HiddenRunsModel", "doubts", "(I)I"⟩, 20), (⟨"HiddenRunsModel", "runAt", "(III)I"⟩, 20), (⟨"HiddenRunsModel", "weightOfNext", "(II)J"⟩, 20), (⟨"HiddenRunsModel", "signs", "()I"⟩, 20), (⟨"HiddenRunsModel", "overSamples", "(I)I"⟩, 20)]
theorem lw_r4 : ∀ q ∈ lw_privs_4, lw_okq q := List.forall_mem_cons.mpr ⟨lw_p48, List.forall_mem_cons.mpr ⟨lw_p49, List.forall_mem_cons.mpr ⟨lw_p50, List.forall_mem_cons.mpr ⟨lw_p51, List.forall_mem_cons.mpr ⟨lw_p52, List.forall_mem_cons.mpr ⟨lw_p53, fun _ h => absurd h List.not_mem_nil⟩⟩⟩⟩⟩⟩
def lw_privs : List (MethodName × Nat) := lw_privs_1 ++ (lw_privs_2 ++ (lw_privs_3 ++ (lw_privs_4)))
def lw_tbl : List Cond := k2_sels lw_privs ++ tables_1
theorem lw_privs_ok : ∀ q ∈ lw_privs, lw_okq q := by
  show ∀ q ∈ lw_privs_1 ++ (lw_privs_2 ++ (lw_privs_3 ++ (lw_privs_4))), lw_okq q
  exact List.forall_mem_append.mpr ⟨lw_r1, List.forall_mem_append.mpr ⟨lw_r2, List.forall_mem_append.mpr ⟨lw_r3, lw_r4⟩⟩⟩
end
section
def RX0 : String := "HiddenRuns$BestRun"
def TX0 : u_T := fun k => match k with
  | 0 => ("HiddenRuns$BestRun", "model", "LHiddenRuns$Model;", true)
  | 1 => ("HiddenRuns$BestRun", "greatest", "[J", true)
  | 2 => ("HiddenRuns$BestRun", "path", "[I", true)
  | _ => ("HiddenRuns$BestRun", "weight", "J", false)
def tyX0 : Nat → FieldType := fun k => match k with
  | 0 => .object "HiddenRuns$Model"
  | 1 => .array .long
  | 2 => .array .int
  | _ => .long
theorem nmX0 : ∀ a, a < 4 → ∀ b, b < 4 → a ≠ b → (TX0 a).2.1 ≠ (TX0 b).2.1 := by decide +kernel
theorem tyX0_ok : ∀ k, k < 4 → parseFieldDescriptor (TX0 k).2.2.1 = some (tyX0 k) := by decide +kernel
abbrev cX0_init : ByteArray := prog_2_method_1_code
def yX0_init : MethodName := ⟨RX0, "<init>", "(LHiddenRuns$Model;)V"⟩
abbrev cX0_read : ByteArray := prog_2_method_2_code
def yX0_read : MethodName := ⟨RX0, "read", "(I)V"⟩
abbrev cX0_beginning : ByteArray := prog_2_method_3_code
def yX0_beginning : MethodName := ⟨RX0, "beginning", "(I)J"⟩
abbrev cX0_going : ByteArray := prog_2_method_4_code
def yX0_going : MethodName := ⟨RX0, "going", "(III)J"⟩
abbrev cX0_firstOf : ByteArray := prog_2_method_5_code
def yX0_firstOf : MethodName := ⟨RX0, "firstOf", "()I"⟩
abbrev cX0_nextOf : ByteArray := prog_2_method_6_code
def yX0_nextOf : MethodName := ⟨RX0, "nextOf", "(II)I"⟩
def RX1 : String := "HiddenRuns$History"
def TX1 : u_T := fun k => match k with
  | 0 => ("HiddenRuns$History", "past", "[LHiddenRuns$Model;", true)
  | _ => ("HiddenRuns$History", "size", "I", false)
def tyX1 : Nat → FieldType := fun k => match k with
  | 0 => .array (.object "HiddenRuns$Model")
  | _ => .int
theorem nmX1 : ∀ a, a < 2 → ∀ b, b < 2 → a ≠ b → (TX1 a).2.1 ≠ (TX1 b).2.1 := by decide +kernel
theorem tyX1_ok : ∀ k, k < 2 → parseFieldDescriptor (TX1 k).2.2.1 = some (tyX1 k) := by decide +kernel
abbrev cX1_init : ByteArray := prog_3_method_1_code
def yX1_init : MethodName := ⟨RX1, "<init>", "()V"⟩
abbrev cX1_record : ByteArray := prog_3_method_2_code
def yX1_record : MethodName := ⟨RX1, "record", "(LHiddenRuns$Model;)V"⟩
abbrev cX1_dropOldest : ByteArray := prog_3_method_3_code
def yX1_dropOldest : MethodName := ⟨RX1, "dropOldest", "()V"⟩
abbrev cX1_takeLatest : ByteArray := prog_3_method_4_code
def yX1_takeLatest : MethodName := ⟨RX1, "takeLatest", "(LHiddenRuns$Model;)V"⟩
def RX2 : String := "HiddenRuns$Learner"
def TX2 : u_T := fun k => match k with
  | 0 => ("HiddenRuns$Learner", "model", "LHiddenRuns$Model;", true)
  | 1 => ("HiddenRuns$Learner", "sums", "LHiddenRuns$Sums;", true)
  | 2 => ("HiddenRuns$Learner", "counts", "[I", true)
  | _ => ("HiddenRuns$Learner", "made", "[I", true)
def tyX2 : Nat → FieldType := fun k => match k with
  | 0 => .object "HiddenRuns$Model"
  | 1 => .object "HiddenRuns$Sums"
  | 2 => .array .int
  | _ => .array .int
theorem nmX2 : ∀ a, a < 4 → ∀ b, b < 4 → a ≠ b → (TX2 a).2.1 ≠ (TX2 b).2.1 := by decide +kernel
theorem tyX2_ok : ∀ k, k < 4 → parseFieldDescriptor (TX2 k).2.2.1 = some (tyX2 k) := by decide +kernel
abbrev cX2_init : ByteArray := prog_4_method_1_code
def yX2_init : MethodName := ⟨RX2, "<init>", "(LHiddenRuns$Model;LHiddenRuns$Sums;)V"⟩
abbrev cX2_prepareRound : ByteArray := prog_4_method_2_code
def yX2_prepareRound : MethodName := ⟨RX2, "prepareRound", "()Z"⟩
abbrev cX2_finishRound : ByteArray := prog_4_method_3_code
def yX2_finishRound : MethodName := ⟨RX2, "finishRound", "()V"⟩
abbrev cX2_countSample : ByteArray := prog_4_method_4_code
def yX2_countSample : MethodName := ⟨RX2, "countSample", "()V"⟩
abbrev cX2_addCount : ByteArray := prog_4_method_5_code
def yX2_addCount : MethodName := ⟨RX2, "addCount", "(IJ)V"⟩
abbrev cX2_makeFamily : ByteArray := prog_4_method_6_code
def yX2_makeFamily : MethodName := ⟨RX2, "makeFamily", "(II)V"⟩
abbrev cX2_differs : ByteArray := prog_4_method_7_code
def yX2_differs : MethodName := ⟨RX2, "differs", "()Z"⟩
def RX3 : String := "HiddenRuns$Model"
def TX3 : u_T := fun k => match k with
  | 0 => ("HiddenRuns$Model", "weights", "[I", true)
  | 1 => ("HiddenRuns$Model", "states", "I", false)
  | 2 => ("HiddenRuns$Model", "bound", "I", false)
  | 3 => ("HiddenRuns$Model", "lengths", "[I", true)
  | 4 => ("HiddenRuns$Model", "signs", "[I", true)
  | _ => ("HiddenRuns$Model", "samples", "I", false)
def tyX3 : Nat → FieldType := fun k => match k with
  | 0 => .array .int
  | 1 => .int
  | 2 => .int
  | 3 => .array .int
  | 4 => .array .int
  | _ => .int
theorem nmX3 : ∀ a, a < 6 → ∀ b, b < 6 → a ≠ b → (TX3 a).2.1 ≠ (TX3 b).2.1 := by decide +kernel
theorem tyX3_ok : ∀ k, k < 6 → parseFieldDescriptor (TX3 k).2.2.1 = some (tyX3 k) := by decide +kernel
abbrev cX3_init : ByteArray := prog_5_method_1_code
def yX3_init : MethodName := ⟨RX3, "<init>", "()V"⟩
abbrev cX3_copyFrom : ByteArray := prog_5_method_2_code
def yX3_copyFrom : MethodName := ⟨RX3, "copyFrom", "(LHiddenRuns$Model;)V"⟩
abbrev cX3_hasState : ByteArray := prog_5_method_3_code
def yX3_hasState : MethodName := ⟨RX3, "hasState", "(I)Z"⟩
abbrev cX3_hasSample : ByteArray := prog_5_method_4_code
def yX3_hasSample : MethodName := ⟨RX3, "hasSample", "(I)Z"⟩
abbrev cX3_hasPlace : ByteArray := prog_5_method_5_code
def yX3_hasPlace : MethodName := ⟨RX3, "hasPlace", "(II)Z"⟩
abbrev cX3_hasWeight : ByteArray := prog_5_method_6_code
def yX3_hasWeight : MethodName := ⟨RX3, "hasWeight", "(III)Z"⟩
abbrev cX3_cellOf : ByteArray := prog_5_method_7_code
def yX3_cellOf : MethodName := ⟨RX3, "cellOf", "(III)I"⟩
abbrev cX3_familySize : ByteArray := prog_5_method_8_code
def yX3_familySize : MethodName := ⟨RX3, "familySize", "(I)I"⟩
abbrev cX3_memberCell : ByteArray := prog_5_method_9_code
def yX3_memberCell : MethodName := ⟨RX3, "memberCell", "(III)I"⟩
abbrev cX3_begin : ByteArray := prog_5_method_10_code
def yX3_begin : MethodName := ⟨RX3, "begin", "(I)I"⟩
abbrev cX3_go : ByteArray := prog_5_method_11_code
def yX3_go : MethodName := ⟨RX3, "go", "(II)I"⟩
abbrev cX3_show : ByteArray := prog_5_method_12_code
def yX3_show : MethodName := ⟨RX3, "show", "(II)I"⟩
abbrev cX3_signAt : ByteArray := prog_5_method_13_code
def yX3_signAt : MethodName := ⟨RX3, "signAt", "(II)I"⟩
abbrev cX3_showAt : ByteArray := prog_5_method_14_code
def yX3_showAt : MethodName := ⟨RX3, "showAt", "(III)I"⟩
abbrev cX3_allSigns : ByteArray := prog_5_method_15_code
def yX3_allSigns : MethodName := ⟨RX3, "allSigns", "()I"⟩
abbrev cX3_oddsOf : ByteArray := prog_5_method_16_code
def yX3_oddsOf : MethodName := ⟨RX3, "oddsOf", "(III)I"⟩
abbrev cX3_appendState : ByteArray := prog_5_method_17_code
def yX3_appendState : MethodName := ⟨RX3, "appendState", "()V"⟩
abbrev cX3_appendTwin : ByteArray := prog_5_method_18_code
def yX3_appendTwin : MethodName := ⟨RX3, "appendTwin", "(I)V"⟩
abbrev cX3_merge : ByteArray := prog_5_method_19_code
def yX3_merge : MethodName := ⟨RX3, "merge", "(II)V"⟩
abbrev cX3_addInto : ByteArray := prog_5_method_20_code
def yX3_addInto : MethodName := ⟨RX3, "addInto", "(II)V"⟩
abbrev cX3_dropState : ByteArray := prog_5_method_21_code
def yX3_dropState : MethodName := ⟨RX3, "dropState", "(I)V"⟩
abbrev cX3_beginSample : ByteArray := prog_5_method_22_code
def yX3_beginSample : MethodName := ⟨RX3, "beginSample", "()V"⟩
abbrev cX3_appendSign : ByteArray := prog_5_method_23_code
def yX3_appendSign : MethodName := ⟨RX3, "appendSign", "(I)V"⟩
abbrev cX3_dropSample : ByteArray := prog_5_method_24_code
def yX3_dropSample : MethodName := ⟨RX3, "dropSample", "(I)V"⟩
def RX4 : String := "HiddenRuns$RunOrder"
def TX4 : u_T := fun k => match k with
  | 0 => ("HiddenRuns$RunOrder", "model", "LHiddenRuns$Model;", true)
  | 1 => ("HiddenRuns$RunOrder", "parts", "[I", true)
  | _ => ("HiddenRuns$RunOrder", "size", "I", false)
def tyX4 : Nat → FieldType := fun k => match k with
  | 0 => .object "HiddenRuns$Model"
  | 1 => .array .int
  | _ => .int
theorem nmX4 : ∀ a, a < 3 → ∀ b, b < 3 → a ≠ b → (TX4 a).2.1 ≠ (TX4 b).2.1 := by decide +kernel
theorem tyX4_ok : ∀ k, k < 3 → parseFieldDescriptor (TX4 k).2.2.1 = some (tyX4 k) := by decide +kernel
abbrev cX4_init : ByteArray := prog_6_method_1_code
def yX4_init : MethodName := ⟨RX4, "<init>", "(LHiddenRuns$Model;)V"⟩
abbrev cX4_read : ByteArray := prog_6_method_2_code
def yX4_read : MethodName := ⟨RX4, "read", "(I)V"⟩
abbrev cX4_partsBehind : ByteArray := prog_6_method_3_code
def yX4_partsBehind : MethodName := ⟨RX4, "partsBehind", "(II)I"⟩
abbrev cX4_entering : ByteArray := prog_6_method_4_code
def yX4_entering : MethodName := ⟨RX4, "entering", "(III)I"⟩
abbrev cX4_stateAt : ByteArray := prog_6_method_5_code
def yX4_stateAt : MethodName := ⟨RX4, "stateAt", "(II)I"⟩
def RX5 : String := "HiddenRuns$SampleText"
def TX5 : u_T := fun k => match k with
  | 0 => ("HiddenRuns$SampleText", "characters", "[C", true)
  | _ => ("HiddenRuns$SampleText", "length", "I", false)
def tyX5 : Nat → FieldType := fun k => match k with
  | 0 => .array .char
  | _ => .int
theorem nmX5 : ∀ a, a < 2 → ∀ b, b < 2 → a ≠ b → (TX5 a).2.1 ≠ (TX5 b).2.1 := by decide +kernel
theorem tyX5_ok : ∀ k, k < 2 → parseFieldDescriptor (TX5 k).2.2.1 = some (tyX5 k) := by decide +kernel
abbrev cX5_init : ByteArray := prog_7_method_1_code
def yX5_init : MethodName := ⟨RX5, "<init>", "()V"⟩
abbrev cX5_append : ByteArray := prog_7_method_2_code
def yX5_append : MethodName := ⟨RX5, "append", "(C)V"⟩
abbrev cX5_empty : ByteArray := prog_7_method_3_code
def yX5_empty : MethodName := ⟨RX5, "empty", "()V"⟩
abbrev cX5_fault : ByteArray := prog_7_method_4_code
def yX5_fault : MethodName := ⟨RX5, "fault", "()I"⟩
abbrev cX5_isLetter : ByteArray := prog_7_method_5_code
def yX5_isLetter : MethodName := ⟨RX5, "isLetter", "(C)Z"⟩
abbrev cX5_samples : ByteArray := prog_7_method_6_code
def yX5_samples : MethodName := ⟨RX5, "samples", "()I"⟩
abbrev cX5_appendTo : ByteArray := prog_7_method_7_code
def yX5_appendTo : MethodName := ⟨RX5, "appendTo", "(LHiddenRuns$Model;)V"⟩
def RX6 : String := "HiddenRuns$Sums"
def TX6 : u_T := fun k => match k with
  | 0 => ("HiddenRuns$Sums", "model", "LHiddenRuns$Model;", true)
  | 1 => ("HiddenRuns$Sums", "sample", "I", false)
  | 2 => ("HiddenRuns$Sums", "places", "I", false)
  | 3 => ("HiddenRuns$Sums", "ahead", "[J", true)
  | 4 => ("HiddenRuns$Sums", "behind", "[J", true)
  | _ => ("HiddenRuns$Sums", "total", "J", false)
def tyX6 : Nat → FieldType := fun k => match k with
  | 0 => .object "HiddenRuns$Model"
  | 1 => .int
  | 2 => .int
  | 3 => .array .long
  | 4 => .array .long
  | _ => .long
theorem nmX6 : ∀ a, a < 6 → ∀ b, b < 6 → a ≠ b → (TX6 a).2.1 ≠ (TX6 b).2.1 := by decide +kernel
theorem tyX6_ok : ∀ k, k < 6 → parseFieldDescriptor (TX6 k).2.2.1 = some (tyX6 k) := by decide +kernel
abbrev cX6_init : ByteArray := prog_8_method_1_code
def yX6_init : MethodName := ⟨RX6, "<init>", "(LHiddenRuns$Model;)V"⟩
abbrev cX6_read : ByteArray := prog_8_method_2_code
def yX6_read : MethodName := ⟨RX6, "read", "(I)V"⟩
abbrev cX6_aheadOf : ByteArray := prog_8_method_3_code
def yX6_aheadOf : MethodName := ⟨RX6, "aheadOf", "(II)J"⟩
abbrev cX6_behindOf : ByteArray := prog_8_method_4_code
def yX6_behindOf : MethodName := ⟨RX6, "behindOf", "(II)J"⟩
abbrev cX6_stepBehind : ByteArray := prog_8_method_5_code
def yX6_stepBehind : MethodName := ⟨RX6, "stepBehind", "(III)J"⟩
abbrev cX6_at : ByteArray := prog_8_method_6_code
def yX6_at : MethodName := ⟨RX6, "at", "(II)J"⟩
abbrev cX6_showing : ByteArray := prog_8_method_7_code
def yX6_showing : MethodName := ⟨RX6, "showing", "(II)J"⟩
abbrev cX6_goingOn : ByteArray := prog_8_method_8_code
def yX6_goingOn : MethodName := ⟨RX6, "goingOn", "(II)J"⟩
abbrev cX6_behindLast : ByteArray := prog_8_method_9_code
def yX6_behindLast : MethodName := ⟨RX6, "behindLast", "(I)J"⟩
abbrev cX6_likeliestAt : ByteArray := prog_8_method_10_code
def yX6_likeliestAt : MethodName := ⟨RX6, "likeliestAt", "(I)I"⟩
abbrev cX6_doubtfulPlaces : ByteArray := prog_8_method_11_code
def yX6_doubtfulPlaces : MethodName := ⟨RX6, "doubtfulPlaces", "()I"⟩
def RX7 : String := "HiddenRuns"
def TX7 : u_T := fun k => match k with
  | 0 => ("HiddenRuns", "now", "LHiddenRuns$Model;", true)
  | 1 => ("HiddenRuns", "snapshot", "LHiddenRuns$Model;", true)
  | 2 => ("HiddenRuns", "hasSnapshot", "Z", false)
  | 3 => ("HiddenRuns", "history", "LHiddenRuns$History;", true)
  | 4 => ("HiddenRuns", "text", "LHiddenRuns$SampleText;", true)
  | 5 => ("HiddenRuns", "sums", "LHiddenRuns$Sums;", true)
  | 6 => ("HiddenRuns", "bestRun", "LHiddenRuns$BestRun;", true)
  | 7 => ("HiddenRuns", "runOrder", "LHiddenRuns$RunOrder;", true)
  | _ => ("HiddenRuns", "learner", "LHiddenRuns$Learner;", true)
def tyX7 : Nat → FieldType := fun k => match k with
  | 0 => .object "HiddenRuns$Model"
  | 1 => .object "HiddenRuns$Model"
  | 2 => .boolean
  | 3 => .object "HiddenRuns$History"
  | 4 => .object "HiddenRuns$SampleText"
  | 5 => .object "HiddenRuns$Sums"
  | 6 => .object "HiddenRuns$BestRun"
  | 7 => .object "HiddenRuns$RunOrder"
  | _ => .object "HiddenRuns$Learner"
theorem nmX7 : ∀ a, a < 9 → ∀ b, b < 9 → a ≠ b → (TX7 a).2.1 ≠ (TX7 b).2.1 := by decide +kernel
theorem tyX7_ok : ∀ k, k < 9 → parseFieldDescriptor (TX7 k).2.2.1 = some (tyX7 k) := by decide +kernel
abbrev cX7_init : ByteArray := prog_1_method_1_code
def yX7_init : MethodName := ⟨RX7, "<init>", "()V"⟩
abbrev cX7_setWeight : ByteArray := prog_1_method_2_code
def yX7_setWeight : MethodName := ⟨RX7, "setWeight", "(IIII)I"⟩
abbrev cX7_addState : ByteArray := prog_1_method_3_code
def yX7_addState : MethodName := ⟨RX7, "addState", "()I"⟩
abbrev cX7_split : ByteArray := prog_1_method_4_code
def yX7_split : MethodName := ⟨RX7, "split", "(I)I"⟩
abbrev cX7_join : ByteArray := prog_1_method_5_code
def yX7_join : MethodName := ⟨RX7, "join", "(II)I"⟩
abbrev cX7_removeState : ByteArray := prog_1_method_6_code
def yX7_removeState : MethodName := ⟨RX7, "removeState", "(I)I"⟩
abbrev cX7_setBound : ByteArray := prog_1_method_7_code
def yX7_setBound : MethodName := ⟨RX7, "setBound", "(I)I"⟩
abbrev cX7_addSamples : ByteArray := prog_1_method_8_code
def yX7_addSamples : MethodName := ⟨RX7, "addSamples", "()I"⟩
abbrev cX7_removeSample : ByteArray := prog_1_method_9_code
def yX7_removeSample : MethodName := ⟨RX7, "removeSample", "(I)I"⟩
abbrev cX7_learn : ByteArray := prog_1_method_10_code
def yX7_learn : MethodName := ⟨RX7, "learn", "(I)I"⟩
abbrev cX7_type : ByteArray := prog_1_method_11_code
def yX7_type : MethodName := ⟨RX7, "type", "(C)I"⟩
abbrev cX7_clearText : ByteArray := prog_1_method_12_code
def yX7_clearText : MethodName := ⟨RX7, "clearText", "()I"⟩
abbrev cX7_undo : ByteArray := prog_1_method_13_code
def yX7_undo : MethodName := ⟨RX7, "undo", "()I"⟩
abbrev cX7_keep : ByteArray := prog_1_method_14_code
def yX7_keep : MethodName := ⟨RX7, "keep", "()I"⟩
abbrev cX7_restore : ByteArray := prog_1_method_15_code
def yX7_restore : MethodName := ⟨RX7, "restore", "()I"⟩
abbrev cX7_weight : ByteArray := prog_1_method_16_code
def yX7_weight : MethodName := ⟨RX7, "weight", "(IIIZ)I"⟩
abbrev cX7_sign : ByteArray := prog_1_method_17_code
def yX7_sign : MethodName := ⟨RX7, "sign", "(II)I"⟩
abbrev cX7_ofSample : ByteArray := prog_1_method_18_code
def yX7_ofSample : MethodName := ⟨RX7, "ofSample", "(II)J"⟩
abbrev cX7_best : ByteArray := prog_1_method_19_code
def yX7_best : MethodName := ⟨RX7, "best", "(II)I"⟩
abbrev cX7_share : ByteArray := prog_1_method_20_code
def yX7_share : MethodName := ⟨RX7, "share", "(III)I"⟩
abbrev cX7_likeliest : ByteArray := prog_1_method_21_code
def yX7_likeliest : MethodName := ⟨RX7, "likeliest", "(II)I"⟩
abbrev cX7_doubtful : ByteArray := prog_1_method_22_code
def yX7_doubtful : MethodName := ⟨RX7, "doubtful", "(I)I"⟩
abbrev cX7_run : ByteArray := prog_1_method_23_code
def yX7_run : MethodName := ⟨RX7, "run", "(III)I"⟩
abbrev cX7_next : ByteArray := prog_1_method_24_code
def yX7_next : MethodName := ⟨RX7, "next", "(II)I"⟩
abbrev cX7_count : ByteArray := prog_1_method_25_code
def yX7_count : MethodName := ⟨RX7, "count", "(I)I"⟩
abbrev cX7_isKind : ByteArray := prog_1_method_26_code
def yX7_isKind : MethodName := ⟨RX7, "isKind", "(I)Z"⟩
abbrev cX7_shareOf : ByteArray := prog_1_method_27_code
def yX7_shareOf : MethodName := ⟨RX7, "shareOf", "(JJ)I"⟩
abbrev cX7_allDoubtful : ByteArray := prog_1_method_28_code
def yX7_allDoubtful : MethodName := ⟨RX7, "allDoubtful", "()I"⟩
abbrev cX7_samplesWithoutTotal : ByteArray := prog_1_method_29_code
def yX7_samplesWithoutTotal : MethodName := ⟨RX7, "samplesWithoutTotal", "()I"⟩
abbrev cX7_placesOffBest : ByteArray := prog_1_method_30_code
def yX7_placesOffBest : MethodName := ⟨RX7, "placesOffBest", "()I"⟩
abbrev cX7_placesOffPath : ByteArray := prog_1_method_31_code
def yX7_placesOffPath : MethodName := ⟨RX7, "placesOffPath", "(I)I"⟩
def RX8 : String := "HiddenRunsModel"
def TX8 : u_T := fun k => match k with
  | 0 => ("HiddenRunsModel", "thrown", "I", false)
  | 1 => ("HiddenRunsModel", "s", "[I", true)
  | 2 => ("HiddenRunsModel", "aside", "[I", true)
  | 3 => ("HiddenRunsModel", "saved", "[I", true)
  | 4 => ("HiddenRunsModel", "savedMany", "I", false)
  | 5 => ("HiddenRunsModel", "snapshot", "[I", true)
  | 6 => ("HiddenRunsModel", "hasSnapshot", "Z", false)
  | 7 => ("HiddenRunsModel", "text", "[I", true)
  | 8 => ("HiddenRunsModel", "length", "I", false)
  | 9 => ("HiddenRunsModel", "up", "[J", true)
  | 10 => ("HiddenRunsModel", "behind", "[J", true)
  | 11 => ("HiddenRunsModel", "greatest", "[J", true)
  | 12 => ("HiddenRunsModel", "many", "[J", true)
  | 13 => ("HiddenRunsModel", "counts", "[J", true)
  | 14 => ("HiddenRunsModel", "rests", "[I", true)
  | 15 => ("HiddenRunsModel", "odds", "[I", true)
  | 16 => ("HiddenRunsModel", "at", "I", false)
  | 17 => ("HiddenRunsModel", "isWell", "Z", false)
  | 18 => ("HiddenRunsModel", "told", "[I", true)
  | _ => ("HiddenRunsModel", "toldMany", "I", false)
def tyX8 : Nat → FieldType := fun k => match k with
  | 0 => .int
  | 1 => .array .int
  | 2 => .array .int
  | 3 => .array .int
  | 4 => .int
  | 5 => .array .int
  | 6 => .boolean
  | 7 => .array .int
  | 8 => .int
  | 9 => .array .long
  | 10 => .array .long
  | 11 => .array .long
  | 12 => .array .long
  | 13 => .array .long
  | 14 => .array .int
  | 15 => .array .int
  | 16 => .int
  | 17 => .boolean
  | 18 => .array .int
  | _ => .int
theorem nmX8 : ∀ a, a < 20 → ∀ b, b < 20 → a ≠ b → (TX8 a).2.1 ≠ (TX8 b).2.1 := by decide +kernel
theorem tyX8_ok : ∀ k, k < 20 → parseFieldDescriptor (TX8 k).2.2.1 = some (tyX8 k) := by decide +kernel
abbrev cX8_init : ByteArray := prog_10_method_1_code
def yX8_init : MethodName := ⟨RX8, "<init>", "()V"⟩
abbrev cX8_in : ByteArray := prog_10_method_3_code
def yX8_in : MethodName := ⟨RX8, "in", "(III)Z"⟩
abbrev cX8_isState : ByteArray := prog_10_method_4_code
def yX8_isState : MethodName := ⟨RX8, "isState", "(I)Z"⟩
abbrev cX8_isSample : ByteArray := prog_10_method_5_code
def yX8_isSample : MethodName := ⟨RX8, "isSample", "(I)Z"⟩
abbrev cX8_go : ByteArray := prog_10_method_6_code
def yX8_go : MethodName := ⟨RX8, "go", "(II)I"⟩
abbrev cX8_show : ByteArray := prog_10_method_7_code
def yX8_show : MethodName := ⟨RX8, "show", "(II)I"⟩
abbrev cX8_placesOf : ByteArray := prog_10_method_8_code
def yX8_placesOf : MethodName := ⟨RX8, "placesOf", "(I)I"⟩
abbrev cX8_signAt : ByteArray := prog_10_method_9_code
def yX8_signAt : MethodName := ⟨RX8, "signAt", "(II)I"⟩
abbrev cX8_fills : ByteArray := prog_10_method_10_code
def yX8_fills : MethodName := ⟨RX8, "fills", "(I)V"⟩
abbrev cX8_records : ByteArray := prog_10_method_11_code
def yX8_records : MethodName := ⟨RX8, "records", "()V"⟩
abbrev cX8_laysRuns : ByteArray := prog_10_method_12_code
def yX8_laysRuns : MethodName := ⟨RX8, "laysRuns", "(I)V"⟩
abbrev cX8_step : ByteArray := prog_10_method_13_code
def yX8_step : MethodName := ⟨RX8, "step", "(IIII)J"⟩
abbrev cX8_laysBehind : ByteArray := prog_10_method_14_code
def yX8_laysBehind : MethodName := ⟨RX8, "laysBehind", "(III)V"⟩
abbrev cX8_weightAt : ByteArray := prog_10_method_15_code
def yX8_weightAt : MethodName := ⟨RX8, "weightAt", "(II)J"⟩
abbrev cX8_total : ByteArray := prog_10_method_16_code
def yX8_total : MethodName := ⟨RX8, "total", "()J"⟩
abbrev cX8_runsThatCount : ByteArray := prog_10_method_17_code
def yX8_runsThatCount : MethodName := ⟨RX8, "runsThatCount", "()J"⟩
abbrev cX8_bestWeight : ByteArray := prog_10_method_18_code
def yX8_bestWeight : MethodName := ⟨RX8, "bestWeight", "()J"⟩
abbrev cX8_shareOf : ByteArray := prog_10_method_19_code
def yX8_shareOf : MethodName := ⟨RX8, "shareOf", "(JJ)I"⟩
abbrev cX8_bestAt : ByteArray := prog_10_method_20_code
def yX8_bestAt : MethodName := ⟨RX8, "bestAt", "(II)I"⟩
abbrev cX8_runAt : ByteArray := prog_10_method_21_code
def yX8_runAt : MethodName := ⟨RX8, "runAt", "(III)I"⟩
abbrev cX8_likeliestAt : ByteArray := prog_10_method_22_code
def yX8_likeliestAt : MethodName := ⟨RX8, "likeliestAt", "(I)I"⟩
abbrev cX8_placeOf : ByteArray := prog_10_method_23_code
def yX8_placeOf : MethodName := ⟨RX8, "placeOf", "(III)I"⟩
abbrev cX8_setWeight : ByteArray := prog_10_method_24_code
def yX8_setWeight : MethodName := ⟨RX8, "setWeight", "(IIII)I"⟩
abbrev cX8_addState : ByteArray := prog_10_method_25_code
def yX8_addState : MethodName := ⟨RX8, "addState", "()I"⟩
abbrev cX8_split : ByteArray := prog_10_method_26_code
def yX8_split : MethodName := ⟨RX8, "split", "(I)I"⟩
abbrev cX8_drops : ByteArray := prog_10_method_27_code
def yX8_drops : MethodName := ⟨RX8, "drops", "(I)V"⟩
abbrev cX8_clears : ByteArray := prog_10_method_28_code
def yX8_clears : MethodName := ⟨RX8, "clears", "(I)V"⟩
abbrev cX8_capped : ByteArray := prog_10_method_29_code
def yX8_capped : MethodName := ⟨RX8, "capped", "(I)I"⟩
abbrev cX8_join : ByteArray := prog_10_method_30_code
def yX8_join : MethodName := ⟨RX8, "join", "(II)I"⟩
abbrev cX8_removeState : ByteArray := prog_10_method_31_code
def yX8_removeState : MethodName := ⟨RX8, "removeState", "(I)I"⟩
abbrev cX8_setBound : ByteArray := prog_10_method_32_code
def yX8_setBound : MethodName := ⟨RX8, "setBound", "(I)I"⟩
abbrev cX8_letter : ByteArray := prog_10_method_33_code
def yX8_letter : MethodName := ⟨RX8, "letter", "()I"⟩
abbrev cX8_readsSample : ByteArray := prog_10_method_34_code
def yX8_readsSample : MethodName := ⟨RX8, "readsSample", "()V"⟩
abbrev cX8_reads : ByteArray := prog_10_method_35_code
def yX8_reads : MethodName := ⟨RX8, "reads", "()I"⟩
abbrev cX8_addSamples : ByteArray := prog_10_method_36_code
def yX8_addSamples : MethodName := ⟨RX8, "addSamples", "()I"⟩
abbrev cX8_removeSample : ByteArray := prog_10_method_37_code
def yX8_removeSample : MethodName := ⟨RX8, "removeSample", "(I)I"⟩
abbrev cX8_counts : ByteArray := prog_10_method_38_code
def yX8_counts : MethodName := ⟨RX8, "counts", "(IJ)V"⟩
abbrev cX8_learnsFamily : ByteArray := prog_10_method_39_code
def yX8_learnsFamily : MethodName := ⟨RX8, "learnsFamily", "(II)Z"⟩
abbrev cX8_learnsOnce : ByteArray := prog_10_method_40_code
def yX8_learnsOnce : MethodName := ⟨RX8, "learnsOnce", "()Z"⟩
abbrev cX8_learn : ByteArray := prog_10_method_41_code
def yX8_learn : MethodName := ⟨RX8, "learn", "(I)I"⟩
abbrev cX8_swapsAside : ByteArray := prog_10_method_42_code
def yX8_swapsAside : MethodName := ⟨RX8, "swapsAside", "()V"⟩
abbrev cX8_type : ByteArray := prog_10_method_43_code
def yX8_type : MethodName := ⟨RX8, "type", "(C)I"⟩
abbrev cX8_clearText : ByteArray := prog_10_method_44_code
def yX8_clearText : MethodName := ⟨RX8, "clearText", "()I"⟩
abbrev cX8_undo : ByteArray := prog_10_method_45_code
def yX8_undo : MethodName := ⟨RX8, "undo", "()I"⟩
abbrev cX8_keep : ByteArray := prog_10_method_46_code
def yX8_keep : MethodName := ⟨RX8, "keep", "()I"⟩
abbrev cX8_restore : ByteArray := prog_10_method_47_code
def yX8_restore : MethodName := ⟨RX8, "restore", "()I"⟩
abbrev cX8_laysOdds : ByteArray := prog_10_method_48_code
def yX8_laysOdds : MethodName := ⟨RX8, "laysOdds", "(II)V"⟩
abbrev cX8_weight : ByteArray := prog_10_method_49_code
def yX8_weight : MethodName := ⟨RX8, "weight", "(IIIZ)I"⟩
abbrev cX8_oddsOf : ByteArray := prog_10_method_50_code
def yX8_oddsOf : MethodName := ⟨RX8, "oddsOf", "(III)I"⟩
abbrev cX8_isPlace : ByteArray := prog_10_method_51_code
def yX8_isPlace : MethodName := ⟨RX8, "isPlace", "(II)Z"⟩
abbrev cX8_sign : ByteArray := prog_10_method_52_code
def yX8_sign : MethodName := ⟨RX8, "sign", "(II)I"⟩
abbrev cX8_ofSample : ByteArray := prog_10_method_53_code
def yX8_ofSample : MethodName := ⟨RX8, "ofSample", "(II)J"⟩
abbrev cX8_best : ByteArray := prog_10_method_54_code
def yX8_best : MethodName := ⟨RX8, "best", "(II)I"⟩
abbrev cX8_share : ByteArray := prog_10_method_55_code
def yX8_share : MethodName := ⟨RX8, "share", "(III)I"⟩
abbrev cX8_likeliest : ByteArray := prog_10_method_56_code
def yX8_likeliest : MethodName := ⟨RX8, "likeliest", "(II)I"⟩
abbrev cX8_doubts : ByteArray := prog_10_method_57_code
def yX8_doubts : MethodName := ⟨RX8, "doubts", "(I)I"⟩
abbrev cX8_doubtful : ByteArray := prog_10_method_58_code
def yX8_doubtful : MethodName := ⟨RX8, "doubtful", "(I)I"⟩
abbrev cX8_run : ByteArray := prog_10_method_59_code
def yX8_run : MethodName := ⟨RX8, "run", "(III)I"⟩
abbrev cX8_weightOfNext : ByteArray := prog_10_method_60_code
def yX8_weightOfNext : MethodName := ⟨RX8, "weightOfNext", "(II)J"⟩
abbrev cX8_next : ByteArray := prog_10_method_61_code
def yX8_next : MethodName := ⟨RX8, "next", "(II)I"⟩
abbrev cX8_signs : ByteArray := prog_10_method_62_code
def yX8_signs : MethodName := ⟨RX8, "signs", "()I"⟩
abbrev cX8_overSamples : ByteArray := prog_10_method_63_code
def yX8_overSamples : MethodName := ⟨RX8, "overSamples", "(I)I"⟩
abbrev cX8_count : ByteArray := prog_10_method_64_code
def yX8_count : MethodName := ⟨RX8, "count", "(I)I"⟩
def RJ6 : String := "java/lang/Integer"
def TJ6 : u_T := fun k => match k with
  | _ => ("", "", "", false)
def tyJ6 : Nat → FieldType := fun k => match k with
  | _ => .int
theorem nmJ6 : ∀ a, a < 0 → ∀ b, b < 0 → a ≠ b → (TJ6 a).2.1 ≠ (TJ6 b).2.1 := by decide +kernel
theorem tyJ6_ok : ∀ k, k < 0 → parseFieldDescriptor (TJ6 k).2.2.1 = some (tyJ6 k) := by decide +kernel
abbrev cJ6_bitCount_0f7a4 : ByteArray := prog_11_method_49_code
def yJ6_bitCount_0f7a4 : MethodName := ⟨RJ6, "bitCount", "(I)I"⟩
def RJ9 : String := "java/lang/Math"
def TJ9 : u_T := fun k => match k with
  | _ => ("", "", "", false)
def tyJ9 : Nat → FieldType := fun k => match k with
  | _ => .int
theorem nmJ9 : ∀ a, a < 0 → ∀ b, b < 0 → a ≠ b → (TJ9 a).2.1 ≠ (TJ9 b).2.1 := by decide +kernel
theorem tyJ9_ok : ∀ k, k < 0 → parseFieldDescriptor (TJ9 k).2.2.1 = some (tyJ9 k) := by decide +kernel
abbrev cJ9_max_7cf53 : ByteArray := prog_12_method_65_code
def yJ9_max_7cf53 : MethodName := ⟨RJ9, "max", "(II)I"⟩
abbrev cJ9_min_7cf53 : ByteArray := prog_12_method_69_code
def yJ9_min_7cf53 : MethodName := ⟨RJ9, "min", "(II)I"⟩
def RJ10 : String := "java/lang/System"
def TJ10 : u_T := fun k => match k with
  | _ => ("", "", "", false)
def tyJ10 : Nat → FieldType := fun k => match k with
  | _ => .int
theorem nmJ10 : ∀ a, a < 0 → ∀ b, b < 0 → a ≠ b → (TJ10 a).2.1 ≠ (TJ10 b).2.1 := by decide +kernel
theorem tyJ10_ok : ∀ k, k < 0 → parseFieldDescriptor (TJ10 k).2.2.1 = some (tyJ10 k) := by decide +kernel
def RJ7 : String := "java/util/Arrays"
def TJ7 : u_T := fun k => match k with
  | _ => ("", "", "", false)
def tyJ7 : Nat → FieldType := fun k => match k with
  | _ => .int
theorem nmJ7 : ∀ a, a < 0 → ∀ b, b < 0 → a ≠ b → (TJ7 a).2.1 ≠ (TJ7 b).2.1 := by decide +kernel
theorem tyJ7_ok : ∀ k, k < 0 → parseFieldDescriptor (TJ7 k).2.2.1 = some (tyJ7 k) := by decide +kernel
abbrev cJ7_fill_53178 : ByteArray := prog_14_method_103_code
def yJ7_fill_53178 : MethodName := ⟨RJ7, "fill", "([II)V"⟩
def RL : String := "HiddenRunsLaw"
abbrev cL_law : ByteArray := code
def yL_law : MethodName := ⟨RL, "law", "([I)Z"⟩
abbrev vwCl : List vw_C := [(RX0, TX0, 4), (RX1, TX1, 2), (RX2, TX2, 4), (RX3, TX3, 6), (RX4, TX4, 3), (RX5, TX5, 2), (RX6, TX6, 6), (RX7, TX7, 9), (RX8, TX8, 20)]
end
section
/-! the tables' words that a method may use, each by its place -/
def TB : List Cond := lw_tbl.filter goodWord
theorem TB_mem {w : Cond} (i : Nat) (h : lw_tbl[i]? = some w) (g : goodWord w = true) : w ∈ TB := List.mem_filter.mpr ⟨List.mem_of_getElem? h, g⟩
theorem TB_good : ∀ w ∈ TB, goodWord w = true := fun _ h => (List.mem_filter.mp h).2
theorem TB_in : ∀ w ∈ TB, w ∈ lw_tbl := fun _ h => (List.mem_filter.mp h).1
def isNest : Cond → Bool
  | .fieldLinkNest .. => true
  | .methodLinkNest .. => true
  | _ => false
def nestW : List Cond := lw_tbl.filter isNest
theorem NW_mem {w : Cond} (i : Nat) (h : lw_tbl[i]? = some w) (g : isNest w = true) : w ∈ nestW := List.mem_filter.mpr ⟨List.mem_of_getElem? h, g⟩
theorem NW_is : ∀ w ∈ nestW, isNest w = true := fun _ h => (List.mem_filter.mp h).2
theorem NW_in : ∀ w ∈ nestW, w ∈ lw_tbl := fun _ h => (List.mem_filter.mp h).1
theorem in_L : Cond.initialized RL ∈ TB := TB_mem 54 (by decide +kernel) rfl
theorem in_X7 : Cond.initialized RX7 ∈ TB := TB_mem 55 (by decide +kernel) rfl
theorem in_X3 : Cond.initialized RX3 ∈ TB := TB_mem 56 (by decide +kernel) rfl
theorem in_X6 : Cond.initialized RX6 ∈ TB := TB_mem 57 (by decide +kernel) rfl
theorem in_X1 : Cond.initialized RX1 ∈ TB := TB_mem 58 (by decide +kernel) rfl
theorem in_X5 : Cond.initialized RX5 ∈ TB := TB_mem 59 (by decide +kernel) rfl
theorem in_X0 : Cond.initialized RX0 ∈ TB := TB_mem 60 (by decide +kernel) rfl
theorem in_X4 : Cond.initialized RX4 ∈ TB := TB_mem 61 (by decide +kernel) rfl
theorem in_X2 : Cond.initialized RX2 ∈ TB := TB_mem 62 (by decide +kernel) rfl
theorem in_X8 : Cond.initialized RX8 ∈ TB := TB_mem 63 (by decide +kernel) rfl
theorem in_J10 : Cond.initialized RJ10 ∈ TB := TB_mem 64 (by decide +kernel) rfl
theorem in_System : Cond.initialized "java/lang/System" ∈ TB := TB_mem 64 (by decide +kernel) rfl
theorem in_J9 : Cond.initialized RJ9 ∈ TB := TB_mem 65 (by decide +kernel) rfl
theorem in_Math : Cond.initialized "java/lang/Math" ∈ TB := TB_mem 65 (by decide +kernel) rfl
theorem in_J7 : Cond.initialized RJ7 ∈ TB := TB_mem 66 (by decide +kernel) rfl
theorem in_Arrays : Cond.initialized "java/util/Arrays" ∈ TB := TB_mem 66 (by decide +kernel) rfl
theorem in_J6 : Cond.initialized RJ6 ∈ TB := TB_mem 67 (by decide +kernel) rfl
theorem in_Integer : Cond.initialized "java/lang/Integer" ∈ TB := TB_mem 67 (by decide +kernel) rfl
theorem cl_L_7 : Cond.classLink RL 7 RX7 ∈ TB := TB_mem 68 (by decide +kernel) rfl
theorem ib_X7 : Cond.instantiable RX7 9 ∈ TB := TB_mem 69 (by decide +kernel) rfl
theorem ml_L_9 : Cond.methodLink RL 9 yX7_init ∈ TB := TB_mem 70 (by decide +kernel) rfl
theorem im_X7_init : Cond.instanceMethod yX7_init ∈ TB := TB_mem 71 (by decide +kernel) rfl
theorem kc_X7_init : Cond.code yX7_init cX7_init 3 none ∈ TB := TB_mem 72 (by decide +kernel) rfl
theorem ml_X7_1 : Cond.methodLink RX7 1 objectInit ∈ TB := TB_mem 73 (by decide +kernel) rfl
theorem im_obj : Cond.instanceMethod objectInit ∈ TB := TB_mem 74 (by decide +kernel) rfl
theorem kc_obj : Cond.code objectInit ⟨#[0xb1]⟩ 1 none ∈ TB := TB_mem 75 (by decide +kernel) rfl
theorem cl_X7_7 : Cond.classLink RX7 7 RX3 ∈ TB := TB_mem 76 (by decide +kernel) rfl
theorem ib_X3 : Cond.instantiable RX3 6 ∈ TB := TB_mem 77 (by decide +kernel) rfl
theorem ml_X7_9 : Cond.methodLink RX7 9 yX3_init ∈ TB := TB_mem 78 (by decide +kernel) rfl
theorem im_X3_init : Cond.instanceMethod yX3_init ∈ TB := TB_mem 79 (by decide +kernel) rfl
theorem kc_X3_init : Cond.code yX3_init cX3_init 2 none ∈ TB := TB_mem 80 (by decide +kernel) rfl
theorem ml_X3_5 : Cond.methodLink RX3 5 objectInit ∈ TB := TB_mem 81 (by decide +kernel) rfl
theorem fl_X3_11 : Cond.fieldLink RX3 11 "HiddenRuns$Model" "weights" "[I" ∈ TB := TB_mem 82 (by decide +kernel) rfl
theorem fl_X7_77 : Cond.fieldLinkNest RX7 77 "HiddenRuns$Model" "weights" "[I" "HiddenRuns" ∈ nestW := NW_mem 83 (by decide +kernel) rfl
theorem fl_X2_51 : Cond.fieldLinkNest RX2 51 "HiddenRuns$Model" "weights" "[I" "HiddenRuns" ∈ nestW := NW_mem 84 (by decide +kernel) rfl
theorem fl_X3_15 : Cond.fieldLink RX3 15 "HiddenRuns$Model" "states" "I" ∈ TB := TB_mem 85 (by decide +kernel) rfl
theorem fl_X4_24 : Cond.fieldLinkNest RX4 24 "HiddenRuns$Model" "states" "I" "HiddenRuns" ∈ nestW := NW_mem 86 (by decide +kernel) rfl
theorem fl_X0_28 : Cond.fieldLinkNest RX0 28 "HiddenRuns$Model" "states" "I" "HiddenRuns" ∈ nestW := NW_mem 87 (by decide +kernel) rfl
theorem fl_X6_35 : Cond.fieldLinkNest RX6 35 "HiddenRuns$Model" "states" "I" "HiddenRuns" ∈ nestW := NW_mem 88 (by decide +kernel) rfl
theorem fl_X2_64 : Cond.fieldLinkNest RX2 64 "HiddenRuns$Model" "states" "I" "HiddenRuns" ∈ nestW := NW_mem 89 (by decide +kernel) rfl
theorem fl_X7_84 : Cond.fieldLinkNest RX7 84 "HiddenRuns$Model" "states" "I" "HiddenRuns" ∈ nestW := NW_mem 90 (by decide +kernel) rfl
theorem fl_X3_19 : Cond.fieldLink RX3 19 "HiddenRuns$Model" "bound" "I" ∈ TB := TB_mem 91 (by decide +kernel) rfl
theorem fl_X7_114 : Cond.fieldLinkNest RX7 114 "HiddenRuns$Model" "bound" "I" "HiddenRuns" ∈ nestW := NW_mem 92 (by decide +kernel) rfl
theorem fl_X6_81 : Cond.fieldLinkNest RX6 81 "HiddenRuns$Model" "bound" "I" "HiddenRuns" ∈ nestW := NW_mem 93 (by decide +kernel) rfl
theorem fl_X3_22 : Cond.fieldLink RX3 22 "HiddenRuns$Model" "lengths" "[I" ∈ TB := TB_mem 94 (by decide +kernel) rfl
theorem fl_X4_19 : Cond.fieldLinkNest RX4 19 "HiddenRuns$Model" "lengths" "[I" "HiddenRuns" ∈ nestW := NW_mem 95 (by decide +kernel) rfl
theorem fl_X0_23 : Cond.fieldLinkNest RX0 23 "HiddenRuns$Model" "lengths" "[I" "HiddenRuns" ∈ nestW := NW_mem 96 (by decide +kernel) rfl
theorem fl_X6_26 : Cond.fieldLinkNest RX6 26 "HiddenRuns$Model" "lengths" "[I" "HiddenRuns" ∈ nestW := NW_mem 97 (by decide +kernel) rfl
theorem fl_X7_236 : Cond.fieldLinkNest RX7 236 "HiddenRuns$Model" "lengths" "[I" "HiddenRuns" ∈ nestW := NW_mem 98 (by decide +kernel) rfl
theorem fl_X3_25 : Cond.fieldLink RX3 25 "HiddenRuns$Model" "signs" "[I" ∈ TB := TB_mem 99 (by decide +kernel) rfl
theorem fl_X2_34 : Cond.fieldLinkNest RX2 34 "HiddenRuns$Model" "samples" "I" "HiddenRuns" ∈ nestW := NW_mem 100 (by decide +kernel) rfl
theorem fl_X3_34 : Cond.fieldLink RX3 34 "HiddenRuns$Model" "samples" "I" ∈ TB := TB_mem 101 (by decide +kernel) rfl
theorem fl_X7_124 : Cond.fieldLinkNest RX7 124 "HiddenRuns$Model" "samples" "I" "HiddenRuns" ∈ nestW := NW_mem 102 (by decide +kernel) rfl
theorem ac_int : Cond.arrayClass .int ∈ TB := TB_mem 116 (by decide +kernel) rfl
theorem cl_X7_10 : Cond.classLink RX7 10 RX6 ∈ TB := TB_mem 117 (by decide +kernel) rfl
theorem ib_X6 : Cond.instantiable RX6 6 ∈ TB := TB_mem 118 (by decide +kernel) rfl
theorem ml_X7_12 : Cond.methodLink RX7 12 yX6_init ∈ TB := TB_mem 119 (by decide +kernel) rfl
theorem im_X6_init : Cond.instanceMethod yX6_init ∈ TB := TB_mem 120 (by decide +kernel) rfl
theorem kc_X6_init : Cond.code yX6_init cX6_init 2 none ∈ TB := TB_mem 121 (by decide +kernel) rfl
theorem ml_X6_3 : Cond.methodLink RX6 3 objectInit ∈ TB := TB_mem 122 (by decide +kernel) rfl
theorem fl_X6_9 : Cond.fieldLink RX6 9 "HiddenRuns$Sums" "model" "LHiddenRuns$Model;" ∈ TB := TB_mem 123 (by decide +kernel) rfl
theorem fl_X6_22 : Cond.fieldLink RX6 22 "HiddenRuns$Sums" "sample" "I" ∈ TB := TB_mem 124 (by decide +kernel) rfl
theorem fl_X6_32 : Cond.fieldLink RX6 32 "HiddenRuns$Sums" "places" "I" ∈ TB := TB_mem 125 (by decide +kernel) rfl
theorem fl_X6_15 : Cond.fieldLink RX6 15 "HiddenRuns$Sums" "ahead" "[J" ∈ TB := TB_mem 126 (by decide +kernel) rfl
theorem fl_X6_19 : Cond.fieldLink RX6 19 "HiddenRuns$Sums" "behind" "[J" ∈ TB := TB_mem 127 (by decide +kernel) rfl
theorem fl_X2_44 : Cond.fieldLinkNest RX2 44 "HiddenRuns$Sums" "total" "J" "HiddenRuns" ∈ nestW := NW_mem 128 (by decide +kernel) rfl
theorem fl_X6_45 : Cond.fieldLink RX6 45 "HiddenRuns$Sums" "total" "J" ∈ TB := TB_mem 129 (by decide +kernel) rfl
theorem fl_X7_180 : Cond.fieldLinkNest RX7 180 "HiddenRuns$Sums" "total" "J" "HiddenRuns" ∈ nestW := NW_mem 130 (by decide +kernel) rfl
theorem ac_long : Cond.arrayClass .long ∈ TB := TB_mem 144 (by decide +kernel) rfl
theorem cl_X7_24 : Cond.classLink RX7 24 RX1 ∈ TB := TB_mem 145 (by decide +kernel) rfl
theorem ib_X1 : Cond.instantiable RX1 2 ∈ TB := TB_mem 146 (by decide +kernel) rfl
theorem ml_X7_26 : Cond.methodLink RX7 26 yX1_init ∈ TB := TB_mem 147 (by decide +kernel) rfl
theorem im_X1_init : Cond.instanceMethod yX1_init ∈ TB := TB_mem 148 (by decide +kernel) rfl
theorem kc_X1_init : Cond.code yX1_init cX1_init 2 none ∈ TB := TB_mem 149 (by decide +kernel) rfl
theorem ml_X1_3 : Cond.methodLink RX1 3 objectInit ∈ TB := TB_mem 150 (by decide +kernel) rfl
theorem cl_X1_9 : Cond.classLink RX1 9 RX3 ∈ TB := TB_mem 151 (by decide +kernel) rfl
theorem ao_model : Cond.arrayOver (.object "HiddenRuns$Model") ∈ lw_tbl := List.mem_of_getElem? (i := 152) (by decide +kernel)
theorem ml_X1_17 : Cond.methodLink RX1 17 yX3_init ∈ TB := TB_mem 153 (by decide +kernel) rfl
theorem fl_X1_11 : Cond.fieldLink RX1 11 "HiddenRuns$History" "past" "[LHiddenRuns$Model;" ∈ TB := TB_mem 154 (by decide +kernel) rfl
theorem fl_X1_18 : Cond.fieldLink RX1 18 "HiddenRuns$History" "size" "I" ∈ TB := TB_mem 155 (by decide +kernel) rfl
theorem fl_X7_152 : Cond.fieldLinkNest RX7 152 "HiddenRuns$History" "size" "I" "HiddenRuns" ∈ nestW := NW_mem 156 (by decide +kernel) rfl
theorem cl_X7_31 : Cond.classLink RX7 31 RX5 ∈ TB := TB_mem 162 (by decide +kernel) rfl
theorem ib_X5 : Cond.instantiable RX5 2 ∈ TB := TB_mem 163 (by decide +kernel) rfl
theorem ml_X7_33 : Cond.methodLink RX7 33 yX5_init ∈ TB := TB_mem 164 (by decide +kernel) rfl
theorem im_X5_init : Cond.instanceMethod yX5_init ∈ TB := TB_mem 165 (by decide +kernel) rfl
theorem kc_X5_init : Cond.code yX5_init cX5_init 1 none ∈ TB := TB_mem 166 (by decide +kernel) rfl
theorem ml_X5_3 : Cond.methodLink RX5 3 objectInit ∈ TB := TB_mem 167 (by decide +kernel) rfl
theorem fl_X5_9 : Cond.fieldLink RX5 9 "HiddenRuns$SampleText" "characters" "[C" ∈ TB := TB_mem 168 (by decide +kernel) rfl
theorem fl_X5_15 : Cond.fieldLink RX5 15 "HiddenRuns$SampleText" "length" "I" ∈ TB := TB_mem 169 (by decide +kernel) rfl
theorem fl_X7_142 : Cond.fieldLinkNest RX7 142 "HiddenRuns$SampleText" "length" "I" "HiddenRuns" ∈ nestW := NW_mem 170 (by decide +kernel) rfl
theorem ac_char : Cond.arrayClass .char ∈ TB := TB_mem 176 (by decide +kernel) rfl
theorem cl_X7_42 : Cond.classLink RX7 42 RX0 ∈ TB := TB_mem 177 (by decide +kernel) rfl
theorem ib_X0 : Cond.instantiable RX0 4 ∈ TB := TB_mem 178 (by decide +kernel) rfl
theorem ml_X7_44 : Cond.methodLink RX7 44 yX0_init ∈ TB := TB_mem 179 (by decide +kernel) rfl
theorem im_X0_init : Cond.instanceMethod yX0_init ∈ TB := TB_mem 180 (by decide +kernel) rfl
theorem kc_X0_init : Cond.code yX0_init cX0_init 2 none ∈ TB := TB_mem 181 (by decide +kernel) rfl
theorem ml_X0_3 : Cond.methodLink RX0 3 objectInit ∈ TB := TB_mem 182 (by decide +kernel) rfl
theorem fl_X0_9 : Cond.fieldLink RX0 9 "HiddenRuns$BestRun" "model" "LHiddenRuns$Model;" ∈ TB := TB_mem 183 (by decide +kernel) rfl
theorem fl_X0_15 : Cond.fieldLink RX0 15 "HiddenRuns$BestRun" "greatest" "[J" ∈ TB := TB_mem 184 (by decide +kernel) rfl
theorem fl_X0_19 : Cond.fieldLink RX0 19 "HiddenRuns$BestRun" "path" "[I" ∈ TB := TB_mem 185 (by decide +kernel) rfl
theorem fl_X7_192 : Cond.fieldLinkNest RX7 192 "HiddenRuns$BestRun" "path" "[I" "HiddenRuns" ∈ nestW := NW_mem 186 (by decide +kernel) rfl
theorem fl_X0_52 : Cond.fieldLink RX0 52 "HiddenRuns$BestRun" "weight" "J" ∈ TB := TB_mem 187 (by decide +kernel) rfl
theorem fl_X7_187 : Cond.fieldLinkNest RX7 187 "HiddenRuns$BestRun" "weight" "J" "HiddenRuns" ∈ nestW := NW_mem 188 (by decide +kernel) rfl
theorem cl_X7_49 : Cond.classLink RX7 49 RX4 ∈ TB := TB_mem 198 (by decide +kernel) rfl
theorem ib_X4 : Cond.instantiable RX4 3 ∈ TB := TB_mem 199 (by decide +kernel) rfl
theorem ml_X7_51 : Cond.methodLink RX7 51 yX4_init ∈ TB := TB_mem 200 (by decide +kernel) rfl
theorem im_X4_init : Cond.instanceMethod yX4_init ∈ TB := TB_mem 201 (by decide +kernel) rfl
theorem kc_X4_init : Cond.code yX4_init cX4_init 2 none ∈ TB := TB_mem 202 (by decide +kernel) rfl
theorem ml_X4_3 : Cond.methodLink RX4 3 objectInit ∈ TB := TB_mem 203 (by decide +kernel) rfl
theorem fl_X4_9 : Cond.fieldLink RX4 9 "HiddenRuns$RunOrder" "model" "LHiddenRuns$Model;" ∈ TB := TB_mem 204 (by decide +kernel) rfl
theorem fl_X4_15 : Cond.fieldLink RX4 15 "HiddenRuns$RunOrder" "parts" "[I" ∈ TB := TB_mem 205 (by decide +kernel) rfl
theorem fl_X4_36 : Cond.fieldLink RX4 36 "HiddenRuns$RunOrder" "size" "I" ∈ TB := TB_mem 206 (by decide +kernel) rfl
theorem fl_X7_185 : Cond.fieldLinkNest RX7 185 "HiddenRuns$RunOrder" "size" "I" "HiddenRuns" ∈ nestW := NW_mem 207 (by decide +kernel) rfl
theorem cl_X7_56 : Cond.classLink RX7 56 RX2 ∈ TB := TB_mem 215 (by decide +kernel) rfl
theorem ib_X2 : Cond.instantiable RX2 4 ∈ TB := TB_mem 216 (by decide +kernel) rfl
theorem ml_X7_58 : Cond.methodLink RX7 58 yX2_init ∈ TB := TB_mem 217 (by decide +kernel) rfl
theorem im_X2_init : Cond.instanceMethod yX2_init ∈ TB := TB_mem 218 (by decide +kernel) rfl
theorem kc_X2_init : Cond.code yX2_init cX2_init 3 none ∈ TB := TB_mem 219 (by decide +kernel) rfl
theorem ml_X2_3 : Cond.methodLink RX2 3 objectInit ∈ TB := TB_mem 220 (by decide +kernel) rfl
theorem fl_X2_9 : Cond.fieldLink RX2 9 "HiddenRuns$Learner" "model" "LHiddenRuns$Model;" ∈ TB := TB_mem 221 (by decide +kernel) rfl
theorem fl_X2_15 : Cond.fieldLink RX2 15 "HiddenRuns$Learner" "sums" "LHiddenRuns$Sums;" ∈ TB := TB_mem 222 (by decide +kernel) rfl
theorem fl_X2_21 : Cond.fieldLink RX2 21 "HiddenRuns$Learner" "counts" "[I" ∈ TB := TB_mem 223 (by decide +kernel) rfl
theorem fl_X2_25 : Cond.fieldLink RX2 25 "HiddenRuns$Learner" "made" "[I" ∈ TB := TB_mem 224 (by decide +kernel) rfl
theorem fl_X7_15 : Cond.fieldLink RX7 15 "HiddenRuns" "now" "LHiddenRuns$Model;" ∈ TB := TB_mem 234 (by decide +kernel) rfl
theorem fl_X7_21 : Cond.fieldLink RX7 21 "HiddenRuns" "snapshot" "LHiddenRuns$Model;" ∈ TB := TB_mem 235 (by decide +kernel) rfl
theorem fl_X7_161 : Cond.fieldLink RX7 161 "HiddenRuns" "hasSnapshot" "Z" ∈ TB := TB_mem 236 (by decide +kernel) rfl
theorem fl_X7_27 : Cond.fieldLink RX7 27 "HiddenRuns" "history" "LHiddenRuns$History;" ∈ TB := TB_mem 237 (by decide +kernel) rfl
theorem fl_X7_34 : Cond.fieldLink RX7 34 "HiddenRuns" "text" "LHiddenRuns$SampleText;" ∈ TB := TB_mem 238 (by decide +kernel) rfl
theorem fl_X7_38 : Cond.fieldLink RX7 38 "HiddenRuns" "sums" "LHiddenRuns$Sums;" ∈ TB := TB_mem 239 (by decide +kernel) rfl
theorem fl_X7_45 : Cond.fieldLink RX7 45 "HiddenRuns" "bestRun" "LHiddenRuns$BestRun;" ∈ TB := TB_mem 240 (by decide +kernel) rfl
theorem fl_X7_52 : Cond.fieldLink RX7 52 "HiddenRuns" "runOrder" "LHiddenRuns$RunOrder;" ∈ TB := TB_mem 241 (by decide +kernel) rfl
theorem fl_X7_61 : Cond.fieldLink RX7 61 "HiddenRuns" "learner" "LHiddenRuns$Learner;" ∈ TB := TB_mem 242 (by decide +kernel) rfl
theorem ml_L_13 : Cond.methodLink RL 13 yX7_setWeight ∈ TB := TB_mem 262 (by decide +kernel) rfl
theorem im_X7_setWeight : Cond.instanceMethod yX7_setWeight ∈ TB := TB_mem 263 (by decide +kernel) rfl
theorem se_X7_setWeight : Cond.selects RX7 yX7_setWeight yX7_setWeight ∈ TB := TB_mem 264 (by decide +kernel) rfl
theorem kc_X7_setWeight : Cond.code yX7_setWeight cX7_setWeight 7 (some .int) ∈ TB := TB_mem 265 (by decide +kernel) rfl
theorem ml_X7_65 : Cond.methodLink RX7 65 yX7_isKind ∈ TB := TB_mem 266 (by decide +kernel) rfl
theorem sm_X7_isKind : Cond.static yX7_isKind ∈ TB := TB_mem 267 (by decide +kernel) rfl
theorem kc_X7_isKind : Cond.code yX7_isKind cX7_isKind 1 (some .boolean) ∈ TB := TB_mem 268 (by decide +kernel) rfl
theorem ml_X7_69 : Cond.methodLink RX7 69 yX3_hasWeight ∈ TB := TB_mem 269 (by decide +kernel) rfl
theorem im_X3_hasWeight : Cond.instanceMethod yX3_hasWeight ∈ TB := TB_mem 270 (by decide +kernel) rfl
theorem se_X3_hasWeight : Cond.selects RX3 yX3_hasWeight yX3_hasWeight ∈ TB := TB_mem 271 (by decide +kernel) rfl
theorem kc_X3_hasWeight : Cond.code yX3_hasWeight cX3_hasWeight 5 (some .boolean) ∈ TB := TB_mem 272 (by decide +kernel) rfl
theorem ml_X3_41 : Cond.methodLink RX3 41 yX3_familySize ∈ TB := TB_mem 273 (by decide +kernel) rfl
theorem im_X3_familySize : Cond.instanceMethod yX3_familySize ∈ TB := TB_mem 274 (by decide +kernel) rfl
theorem se_X3_familySize : Cond.selects RX3 yX3_familySize yX3_familySize ∈ TB := TB_mem 275 (by decide +kernel) rfl
theorem kc_X3_familySize : Cond.code yX3_familySize cX3_familySize 2 (some .int) ∈ TB := TB_mem 276 (by decide +kernel) rfl
theorem ml_X3_45 : Cond.methodLink RX3 45 yX3_hasState ∈ TB := TB_mem 277 (by decide +kernel) rfl
theorem im_X3_hasState : Cond.instanceMethod yX3_hasState ∈ TB := TB_mem 278 (by decide +kernel) rfl
theorem se_X3_hasState : Cond.selects RX3 yX3_hasState yX3_hasState ∈ TB := TB_mem 279 (by decide +kernel) rfl
theorem kc_X3_hasState : Cond.code yX3_hasState cX3_hasState 2 (some .boolean) ∈ TB := TB_mem 280 (by decide +kernel) rfl
theorem ml_X7_73 : Cond.methodLink RX7 73 yX3_cellOf ∈ TB := TB_mem 281 (by decide +kernel) rfl
theorem sm_X3_cellOf : Cond.static yX3_cellOf ∈ TB := TB_mem 282 (by decide +kernel) rfl
theorem kc_X3_cellOf : Cond.code yX3_cellOf cX3_cellOf 4 (some .int) ∈ TB := TB_mem 283 (by decide +kernel) rfl
theorem ml_X7_81 : Cond.methodLink RX7 81 yX1_record ∈ TB := TB_mem 284 (by decide +kernel) rfl
theorem im_X1_record : Cond.instanceMethod yX1_record ∈ TB := TB_mem 285 (by decide +kernel) rfl
theorem se_X1_record : Cond.selects RX1 yX1_record yX1_record ∈ TB := TB_mem 286 (by decide +kernel) rfl
theorem kc_X1_record : Cond.code yX1_record cX1_record 2 none ∈ TB := TB_mem 287 (by decide +kernel) rfl
theorem ml_X1_22 : Cond.methodLink RX1 22 yX1_dropOldest ∈ TB := TB_mem 288 (by decide +kernel) rfl
theorem im_X1_dropOldest : Cond.instanceMethod yX1_dropOldest ∈ TB := TB_mem 290 (by decide +kernel) rfl
theorem kc_X1_dropOldest : Cond.code yX1_dropOldest cX1_dropOldest 3 none ∈ TB := TB_mem 291 (by decide +kernel) rfl
theorem ml_X1_25 : Cond.methodLink RX1 25 yX3_copyFrom ∈ TB := TB_mem 292 (by decide +kernel) rfl
theorem im_X3_copyFrom : Cond.instanceMethod yX3_copyFrom ∈ TB := TB_mem 293 (by decide +kernel) rfl
theorem se_X3_copyFrom : Cond.selects RX3 yX3_copyFrom yX3_copyFrom ∈ TB := TB_mem 294 (by decide +kernel) rfl
theorem kc_X3_copyFrom : Cond.code yX3_copyFrom cX3_copyFrom 2 none ∈ TB := TB_mem 295 (by decide +kernel) rfl
theorem ml_X3_28 : Cond.methodLink RX3 28 arraycopyName ∈ TB := TB_mem 296 (by decide +kernel) rfl
theorem sm_acopy : Cond.static arraycopyName ∈ TB := TB_mem 297 (by decide +kernel) rfl
theorem na_acopy : Cond.native arraycopyName ∈ TB := TB_mem 298 (by decide +kernel) rfl
theorem ml_L_18 : Cond.methodLink RL 18 yX7_addState ∈ TB := TB_mem 299 (by decide +kernel) rfl
theorem im_X7_addState : Cond.instanceMethod yX7_addState ∈ TB := TB_mem 300 (by decide +kernel) rfl
theorem se_X7_addState : Cond.selects RX7 yX7_addState yX7_addState ∈ TB := TB_mem 301 (by decide +kernel) rfl
theorem kc_X7_addState : Cond.code yX7_addState cX7_addState 1 (some .int) ∈ TB := TB_mem 302 (by decide +kernel) rfl
theorem ml_X7_88 : Cond.methodLink RX7 88 yX3_appendState ∈ TB := TB_mem 303 (by decide +kernel) rfl
theorem im_X3_appendState : Cond.instanceMethod yX3_appendState ∈ TB := TB_mem 304 (by decide +kernel) rfl
theorem se_X3_appendState : Cond.selects RX3 yX3_appendState yX3_appendState ∈ TB := TB_mem 305 (by decide +kernel) rfl
theorem kc_X3_appendState : Cond.code yX3_appendState cX3_appendState 3 none ∈ TB := TB_mem 306 (by decide +kernel) rfl
theorem ml_X3_48 : Cond.methodLink RX3 48 yX3_cellOf ∈ TB := TB_mem 307 (by decide +kernel) rfl
theorem ml_L_23 : Cond.methodLink RL 23 yX7_split ∈ TB := TB_mem 308 (by decide +kernel) rfl
theorem im_X7_split : Cond.instanceMethod yX7_split ∈ TB := TB_mem 309 (by decide +kernel) rfl
theorem se_X7_split : Cond.selects RX7 yX7_split yX7_split ∈ TB := TB_mem 310 (by decide +kernel) rfl
theorem kc_X7_split : Cond.code yX7_split cX7_split 2 (some .int) ∈ TB := TB_mem 311 (by decide +kernel) rfl
theorem ml_X7_91 : Cond.methodLink RX7 91 yX3_hasState ∈ TB := TB_mem 312 (by decide +kernel) rfl
theorem ml_X7_94 : Cond.methodLink RX7 94 yX3_appendTwin ∈ TB := TB_mem 313 (by decide +kernel) rfl
theorem im_X3_appendTwin : Cond.instanceMethod yX3_appendTwin ∈ TB := TB_mem 314 (by decide +kernel) rfl
theorem se_X3_appendTwin : Cond.selects RX3 yX3_appendTwin yX3_appendTwin ∈ TB := TB_mem 315 (by decide +kernel) rfl
theorem kc_X3_appendTwin : Cond.code yX3_appendTwin cX3_appendTwin 4 none ∈ TB := TB_mem 316 (by decide +kernel) rfl
theorem ml_X3_62 : Cond.methodLink RX3 62 yX3_go ∈ TB := TB_mem 317 (by decide +kernel) rfl
theorem im_X3_go : Cond.instanceMethod yX3_go ∈ TB := TB_mem 318 (by decide +kernel) rfl
theorem se_X3_go : Cond.selects RX3 yX3_go yX3_go ∈ TB := TB_mem 319 (by decide +kernel) rfl
theorem kc_X3_go : Cond.code yX3_go cX3_go 3 (some .int) ∈ TB := TB_mem 320 (by decide +kernel) rfl
theorem ml_L_28 : Cond.methodLink RL 28 yX7_join ∈ TB := TB_mem 321 (by decide +kernel) rfl
theorem im_X7_join : Cond.instanceMethod yX7_join ∈ TB := TB_mem 322 (by decide +kernel) rfl
theorem se_X7_join : Cond.selects RX7 yX7_join yX7_join ∈ TB := TB_mem 323 (by decide +kernel) rfl
theorem kc_X7_join : Cond.code yX7_join cX7_join 3 (some .int) ∈ TB := TB_mem 324 (by decide +kernel) rfl
theorem ml_X7_98 : Cond.methodLink RX7 98 Lib.Math.min.name ∈ TB := TB_mem 325 (by decide +kernel) rfl
theorem sm_J9_min : Cond.static Lib.Math.min.name ∈ TB := TB_mem 326 (by decide +kernel) rfl
theorem kc_J9_min : Cond.code Lib.Math.min.name Lib.Math.min.code 2 (some .int) ∈ TB := TB_mem 327 (by decide +kernel) rfl
theorem ml_X7_104 : Cond.methodLink RX7 104 Lib.Math.max.name ∈ TB := TB_mem 328 (by decide +kernel) rfl
theorem sm_J9_max : Cond.static Lib.Math.max.name ∈ TB := TB_mem 329 (by decide +kernel) rfl
theorem kc_J9_max : Cond.code Lib.Math.max.name Lib.Math.max.code 2 (some .int) ∈ TB := TB_mem 330 (by decide +kernel) rfl
theorem ml_X7_107 : Cond.methodLink RX7 107 yX3_merge ∈ TB := TB_mem 331 (by decide +kernel) rfl
theorem im_X3_merge : Cond.instanceMethod yX3_merge ∈ TB := TB_mem 332 (by decide +kernel) rfl
theorem se_X3_merge : Cond.selects RX3 yX3_merge yX3_merge ∈ TB := TB_mem 333 (by decide +kernel) rfl
theorem kc_X3_merge : Cond.code yX3_merge cX3_merge 5 none ∈ TB := TB_mem 334 (by decide +kernel) rfl
theorem ml_X3_65 : Cond.methodLink RX3 65 yX3_addInto ∈ TB := TB_mem 335 (by decide +kernel) rfl
theorem im_X3_addInto : Cond.instanceMethod yX3_addInto ∈ TB := TB_mem 337 (by decide +kernel) rfl
theorem kc_X3_addInto : Cond.code yX3_addInto cX3_addInto 3 none ∈ TB := TB_mem 338 (by decide +kernel) rfl
theorem ml_X3_69 : Cond.methodLink RX3 69 Lib.Math.min.name ∈ TB := TB_mem 339 (by decide +kernel) rfl
theorem ml_X3_74 : Cond.methodLink RX3 74 yX3_dropState ∈ TB := TB_mem 340 (by decide +kernel) rfl
theorem im_X3_dropState : Cond.instanceMethod yX3_dropState ∈ TB := TB_mem 341 (by decide +kernel) rfl
theorem se_X3_dropState : Cond.selects RX3 yX3_dropState yX3_dropState ∈ TB := TB_mem 342 (by decide +kernel) rfl
theorem kc_X3_dropState : Cond.code yX3_dropState cX3_dropState 5 none ∈ TB := TB_mem 343 (by decide +kernel) rfl
theorem ml_L_33 : Cond.methodLink RL 33 yX7_removeState ∈ TB := TB_mem 344 (by decide +kernel) rfl
theorem im_X7_removeState : Cond.instanceMethod yX7_removeState ∈ TB := TB_mem 345 (by decide +kernel) rfl
theorem se_X7_removeState : Cond.selects RX7 yX7_removeState yX7_removeState ∈ TB := TB_mem 346 (by decide +kernel) rfl
theorem kc_X7_removeState : Cond.code yX7_removeState cX7_removeState 2 (some .int) ∈ TB := TB_mem 347 (by decide +kernel) rfl
theorem ml_X7_111 : Cond.methodLink RX7 111 yX3_dropState ∈ TB := TB_mem 348 (by decide +kernel) rfl
theorem ml_L_37 : Cond.methodLink RL 37 yX7_setBound ∈ TB := TB_mem 349 (by decide +kernel) rfl
theorem im_X7_setBound : Cond.instanceMethod yX7_setBound ∈ TB := TB_mem 350 (by decide +kernel) rfl
theorem se_X7_setBound : Cond.selects RX7 yX7_setBound yX7_setBound ∈ TB := TB_mem 351 (by decide +kernel) rfl
theorem kc_X7_setBound : Cond.code yX7_setBound cX7_setBound 3 (some .int) ∈ TB := TB_mem 352 (by decide +kernel) rfl
theorem ml_L_41 : Cond.methodLink RL 41 yX7_addSamples ∈ TB := TB_mem 353 (by decide +kernel) rfl
theorem im_X7_addSamples : Cond.instanceMethod yX7_addSamples ∈ TB := TB_mem 354 (by decide +kernel) rfl
theorem se_X7_addSamples : Cond.selects RX7 yX7_addSamples yX7_addSamples ∈ TB := TB_mem 355 (by decide +kernel) rfl
theorem kc_X7_addSamples : Cond.code yX7_addSamples cX7_addSamples 3 (some .int) ∈ TB := TB_mem 356 (by decide +kernel) rfl
theorem ml_X7_117 : Cond.methodLink RX7 117 yX5_fault ∈ TB := TB_mem 357 (by decide +kernel) rfl
theorem im_X5_fault : Cond.instanceMethod yX5_fault ∈ TB := TB_mem 358 (by decide +kernel) rfl
theorem se_X5_fault : Cond.selects RX5 yX5_fault yX5_fault ∈ TB := TB_mem 359 (by decide +kernel) rfl
theorem kc_X5_fault : Cond.code yX5_fault cX5_fault 4 (some .int) ∈ TB := TB_mem 360 (by decide +kernel) rfl
theorem ml_X5_19 : Cond.methodLink RX5 19 yX5_isLetter ∈ TB := TB_mem 361 (by decide +kernel) rfl
theorem sm_X5_isLetter : Cond.static yX5_isLetter ∈ TB := TB_mem 362 (by decide +kernel) rfl
theorem kc_X5_isLetter : Cond.code yX5_isLetter cX5_isLetter 1 (some .boolean) ∈ TB := TB_mem 363 (by decide +kernel) rfl
theorem ml_X7_121 : Cond.methodLink RX7 121 yX5_samples ∈ TB := TB_mem 364 (by decide +kernel) rfl
theorem im_X5_samples : Cond.instanceMethod yX5_samples ∈ TB := TB_mem 365 (by decide +kernel) rfl
theorem se_X5_samples : Cond.selects RX5 yX5_samples yX5_samples ∈ TB := TB_mem 366 (by decide +kernel) rfl
theorem kc_X5_samples : Cond.code yX5_samples cX5_samples 3 (some .int) ∈ TB := TB_mem 367 (by decide +kernel) rfl
theorem ml_X7_126 : Cond.methodLink RX7 126 yX5_appendTo ∈ TB := TB_mem 368 (by decide +kernel) rfl
theorem im_X5_appendTo : Cond.instanceMethod yX5_appendTo ∈ TB := TB_mem 369 (by decide +kernel) rfl
theorem se_X5_appendTo : Cond.selects RX5 yX5_appendTo yX5_appendTo ∈ TB := TB_mem 370 (by decide +kernel) rfl
theorem kc_X5_appendTo : Cond.code yX5_appendTo cX5_appendTo 3 none ∈ TB := TB_mem 371 (by decide +kernel) rfl
theorem ml_X5_23 : Cond.methodLink RX5 23 yX3_beginSample ∈ TB := TB_mem 372 (by decide +kernel) rfl
theorem im_X3_beginSample : Cond.instanceMethod yX3_beginSample ∈ TB := TB_mem 373 (by decide +kernel) rfl
theorem se_X3_beginSample : Cond.selects RX3 yX3_beginSample yX3_beginSample ∈ TB := TB_mem 374 (by decide +kernel) rfl
theorem kc_X3_beginSample : Cond.code yX3_beginSample cX3_beginSample 1 none ∈ TB := TB_mem 375 (by decide +kernel) rfl
theorem ml_X5_28 : Cond.methodLink RX5 28 yX3_appendSign ∈ TB := TB_mem 376 (by decide +kernel) rfl
theorem im_X3_appendSign : Cond.instanceMethod yX3_appendSign ∈ TB := TB_mem 377 (by decide +kernel) rfl
theorem se_X3_appendSign : Cond.selects RX3 yX3_appendSign yX3_appendSign ∈ TB := TB_mem 378 (by decide +kernel) rfl
theorem kc_X3_appendSign : Cond.code yX3_appendSign cX3_appendSign 3 none ∈ TB := TB_mem 379 (by decide +kernel) rfl
theorem ml_L_45 : Cond.methodLink RL 45 yX7_removeSample ∈ TB := TB_mem 380 (by decide +kernel) rfl
theorem im_X7_removeSample : Cond.instanceMethod yX7_removeSample ∈ TB := TB_mem 381 (by decide +kernel) rfl
theorem se_X7_removeSample : Cond.selects RX7 yX7_removeSample yX7_removeSample ∈ TB := TB_mem 382 (by decide +kernel) rfl
theorem kc_X7_removeSample : Cond.code yX7_removeSample cX7_removeSample 2 (some .int) ∈ TB := TB_mem 383 (by decide +kernel) rfl
theorem ml_X7_129 : Cond.methodLink RX7 129 yX3_hasSample ∈ TB := TB_mem 384 (by decide +kernel) rfl
theorem im_X3_hasSample : Cond.instanceMethod yX3_hasSample ∈ TB := TB_mem 385 (by decide +kernel) rfl
theorem se_X3_hasSample : Cond.selects RX3 yX3_hasSample yX3_hasSample ∈ TB := TB_mem 386 (by decide +kernel) rfl
theorem kc_X3_hasSample : Cond.code yX3_hasSample cX3_hasSample 2 (some .boolean) ∈ TB := TB_mem 387 (by decide +kernel) rfl
theorem ml_X7_132 : Cond.methodLink RX7 132 yX3_dropSample ∈ TB := TB_mem 388 (by decide +kernel) rfl
theorem im_X3_dropSample : Cond.instanceMethod yX3_dropSample ∈ TB := TB_mem 389 (by decide +kernel) rfl
theorem se_X3_dropSample : Cond.selects RX3 yX3_dropSample yX3_dropSample ∈ TB := TB_mem 390 (by decide +kernel) rfl
theorem kc_X3_dropSample : Cond.code yX3_dropSample cX3_dropSample 4 none ∈ TB := TB_mem 391 (by decide +kernel) rfl
theorem ml_L_49 : Cond.methodLink RL 49 yX7_learn ∈ TB := TB_mem 392 (by decide +kernel) rfl
theorem im_X7_learn : Cond.instanceMethod yX7_learn ∈ TB := TB_mem 393 (by decide +kernel) rfl
theorem se_X7_learn : Cond.selects RX7 yX7_learn yX7_learn ∈ TB := TB_mem 394 (by decide +kernel) rfl
theorem kc_X7_learn : Cond.code yX7_learn cX7_learn 4 (some .int) ∈ TB := TB_mem 395 (by decide +kernel) rfl
theorem ml_X7_135 : Cond.methodLink RX7 135 yX2_prepareRound ∈ TB := TB_mem 396 (by decide +kernel) rfl
theorem im_X2_prepareRound : Cond.instanceMethod yX2_prepareRound ∈ TB := TB_mem 397 (by decide +kernel) rfl
theorem se_X2_prepareRound : Cond.selects RX2 yX2_prepareRound yX2_prepareRound ∈ TB := TB_mem 398 (by decide +kernel) rfl
theorem kc_X2_prepareRound : Cond.code yX2_prepareRound cX2_prepareRound 2 (some .boolean) ∈ TB := TB_mem 399 (by decide +kernel) rfl
theorem ml_X2_28 : Cond.methodLink RX2 28 yJ7_fill_53178 ∈ TB := TB_mem 400 (by decide +kernel) rfl
theorem sm_J7_fill_53178 : Cond.static yJ7_fill_53178 ∈ TB := TB_mem 401 (by decide +kernel) rfl
theorem kc_J7_fill_53178 : Cond.code yJ7_fill_53178 cJ7_fill_53178 4 none ∈ TB := TB_mem 402 (by decide +kernel) rfl
theorem ml_X2_38 : Cond.methodLink RX2 38 yX6_read ∈ TB := TB_mem 403 (by decide +kernel) rfl
theorem im_X6_read : Cond.instanceMethod yX6_read ∈ TB := TB_mem 404 (by decide +kernel) rfl
theorem se_X6_read : Cond.selects RX6 yX6_read yX6_read ∈ TB := TB_mem 405 (by decide +kernel) rfl
theorem kc_X6_read : Cond.code yX6_read cX6_read 4 none ∈ TB := TB_mem 406 (by decide +kernel) rfl
theorem ml_X6_38 : Cond.methodLink RX6 38 yX6_aheadOf ∈ TB := TB_mem 407 (by decide +kernel) rfl
theorem im_X6_aheadOf : Cond.instanceMethod yX6_aheadOf ∈ TB := TB_mem 409 (by decide +kernel) rfl
theorem kc_X6_aheadOf : Cond.code yX6_aheadOf cX6_aheadOf 6 (some .long) ∈ TB := TB_mem 410 (by decide +kernel) rfl
theorem ml_X6_52 : Cond.methodLink RX6 52 yX3_begin ∈ TB := TB_mem 411 (by decide +kernel) rfl
theorem im_X3_begin : Cond.instanceMethod yX3_begin ∈ TB := TB_mem 412 (by decide +kernel) rfl
theorem se_X3_begin : Cond.selects RX3 yX3_begin yX3_begin ∈ TB := TB_mem 413 (by decide +kernel) rfl
theorem kc_X3_begin : Cond.code yX3_begin cX3_begin 2 (some .int) ∈ TB := TB_mem 414 (by decide +kernel) rfl
theorem ml_X6_56 : Cond.methodLink RX6 56 yX3_go ∈ TB := TB_mem 415 (by decide +kernel) rfl
theorem ml_X6_60 : Cond.methodLink RX6 60 yX3_showAt ∈ TB := TB_mem 416 (by decide +kernel) rfl
theorem im_X3_showAt : Cond.instanceMethod yX3_showAt ∈ TB := TB_mem 417 (by decide +kernel) rfl
theorem se_X3_showAt : Cond.selects RX3 yX3_showAt yX3_showAt ∈ TB := TB_mem 418 (by decide +kernel) rfl
theorem kc_X3_showAt : Cond.code yX3_showAt cX3_showAt 4 (some .int) ∈ TB := TB_mem 419 (by decide +kernel) rfl
theorem ml_X3_52 : Cond.methodLink RX3 52 yX3_signAt ∈ TB := TB_mem 420 (by decide +kernel) rfl
theorem im_X3_signAt : Cond.instanceMethod yX3_signAt ∈ TB := TB_mem 421 (by decide +kernel) rfl
theorem se_X3_signAt : Cond.selects RX3 yX3_signAt yX3_signAt ∈ TB := TB_mem 422 (by decide +kernel) rfl
theorem kc_X3_signAt : Cond.code yX3_signAt cX3_signAt 3 (some .int) ∈ TB := TB_mem 423 (by decide +kernel) rfl
theorem ml_X3_56 : Cond.methodLink RX3 56 yX3_show ∈ TB := TB_mem 424 (by decide +kernel) rfl
theorem im_X3_show : Cond.instanceMethod yX3_show ∈ TB := TB_mem 425 (by decide +kernel) rfl
theorem se_X3_show : Cond.selects RX3 yX3_show yX3_show ∈ TB := TB_mem 426 (by decide +kernel) rfl
theorem kc_X3_show : Cond.code yX3_show cX3_show 3 (some .int) ∈ TB := TB_mem 427 (by decide +kernel) rfl
theorem ml_X6_42 : Cond.methodLink RX6 42 yX6_behindOf ∈ TB := TB_mem 428 (by decide +kernel) rfl
theorem im_X6_behindOf : Cond.instanceMethod yX6_behindOf ∈ TB := TB_mem 430 (by decide +kernel) rfl
theorem kc_X6_behindOf : Cond.code yX6_behindOf cX6_behindOf 6 (some .long) ∈ TB := TB_mem 431 (by decide +kernel) rfl
theorem ml_X6_64 : Cond.methodLink RX6 64 yX6_stepBehind ∈ TB := TB_mem 432 (by decide +kernel) rfl
theorem im_X6_stepBehind : Cond.instanceMethod yX6_stepBehind ∈ TB := TB_mem 434 (by decide +kernel) rfl
theorem kc_X6_stepBehind : Cond.code yX6_stepBehind cX6_stepBehind 6 (some .long) ∈ TB := TB_mem 435 (by decide +kernel) rfl
theorem ml_X6_49 : Cond.methodLink RX6 49 yX6_at ∈ TB := TB_mem 436 (by decide +kernel) rfl
theorem im_X6_at : Cond.instanceMethod yX6_at ∈ TB := TB_mem 437 (by decide +kernel) rfl
theorem se_X6_at : Cond.selects RX6 yX6_at yX6_at ∈ TB := TB_mem 438 (by decide +kernel) rfl
theorem kc_X6_at : Cond.code yX6_at cX6_at 4 (some .long) ∈ TB := TB_mem 439 (by decide +kernel) rfl
theorem ml_X2_48 : Cond.methodLink RX2 48 yX2_countSample ∈ TB := TB_mem 440 (by decide +kernel) rfl
theorem im_X2_countSample : Cond.instanceMethod yX2_countSample ∈ TB := TB_mem 442 (by decide +kernel) rfl
theorem kc_X2_countSample : Cond.code yX2_countSample cX2_countSample 3 none ∈ TB := TB_mem 443 (by decide +kernel) rfl
theorem ml_X2_71 : Cond.methodLink RX2 71 yX3_cellOf ∈ TB := TB_mem 444 (by decide +kernel) rfl
theorem ml_X2_75 : Cond.methodLink RX2 75 yX6_at ∈ TB := TB_mem 445 (by decide +kernel) rfl
theorem ml_X2_79 : Cond.methodLink RX2 79 yX2_addCount ∈ TB := TB_mem 446 (by decide +kernel) rfl
theorem im_X2_addCount : Cond.instanceMethod yX2_addCount ∈ TB := TB_mem 448 (by decide +kernel) rfl
theorem kc_X2_addCount : Cond.code yX2_addCount cX2_addCount 4 none ∈ TB := TB_mem 449 (by decide +kernel) rfl
theorem ml_X2_89 : Cond.methodLinkNest RX2 89 yX7_shareOf "HiddenRuns" ∈ nestW := NW_mem 450 (by decide +kernel) rfl
theorem sm_X7_shareOf : Cond.static yX7_shareOf ∈ TB := TB_mem 451 (by decide +kernel) rfl
theorem kc_X7_shareOf : Cond.code yX7_shareOf cX7_shareOf 9 (some .int) ∈ TB := TB_mem 452 (by decide +kernel) rfl
theorem ko_X7_229 : Cond.constantLong RX7 229 (10) ∈ TB := TB_mem 453 (by decide +kernel) rfl
theorem ml_X2_83 : Cond.methodLink RX2 83 yX6_goingOn ∈ TB := TB_mem 454 (by decide +kernel) rfl
theorem im_X6_goingOn : Cond.instanceMethod yX6_goingOn ∈ TB := TB_mem 455 (by decide +kernel) rfl
theorem se_X6_goingOn : Cond.selects RX6 yX6_goingOn yX6_goingOn ∈ TB := TB_mem 456 (by decide +kernel) rfl
theorem kc_X6_goingOn : Cond.code yX6_goingOn cX6_goingOn 6 (some .long) ∈ TB := TB_mem 457 (by decide +kernel) rfl
theorem ml_X2_86 : Cond.methodLink RX2 86 yX6_showing ∈ TB := TB_mem 458 (by decide +kernel) rfl
theorem im_X6_showing : Cond.instanceMethod yX6_showing ∈ TB := TB_mem 459 (by decide +kernel) rfl
theorem se_X6_showing : Cond.selects RX6 yX6_showing yX6_showing ∈ TB := TB_mem 460 (by decide +kernel) rfl
theorem kc_X6_showing : Cond.code yX6_showing cX6_showing 6 (some .long) ∈ TB := TB_mem 461 (by decide +kernel) rfl
theorem ml_X6_68 : Cond.methodLink RX6 68 yX3_signAt ∈ TB := TB_mem 462 (by decide +kernel) rfl
theorem ml_X2_54 : Cond.methodLink RX2 54 arraycopyName ∈ TB := TB_mem 463 (by decide +kernel) rfl
theorem ml_X2_60 : Cond.methodLink RX2 60 yX2_makeFamily ∈ TB := TB_mem 464 (by decide +kernel) rfl
theorem im_X2_makeFamily : Cond.instanceMethod yX2_makeFamily ∈ TB := TB_mem 466 (by decide +kernel) rfl
theorem kc_X2_makeFamily : Cond.code yX2_makeFamily cX2_makeFamily 7 none ∈ TB := TB_mem 467 (by decide +kernel) rfl
theorem ml_X2_93 : Cond.methodLink RX2 93 yX3_familySize ∈ TB := TB_mem 468 (by decide +kernel) rfl
theorem ml_X2_97 : Cond.methodLink RX2 97 yX3_memberCell ∈ TB := TB_mem 469 (by decide +kernel) rfl
theorem sm_X3_memberCell : Cond.static yX3_memberCell ∈ TB := TB_mem 470 (by decide +kernel) rfl
theorem kc_X3_memberCell : Cond.code yX3_memberCell cX3_memberCell 3 (some .int) ∈ TB := TB_mem 471 (by decide +kernel) rfl
theorem ml_X2_100 : Cond.methodLink RX2 100 Lib.Math.max.name ∈ TB := TB_mem 472 (by decide +kernel) rfl
theorem ml_X2_67 : Cond.methodLink RX2 67 yX2_differs ∈ TB := TB_mem 473 (by decide +kernel) rfl
theorem im_X2_differs : Cond.instanceMethod yX2_differs ∈ TB := TB_mem 475 (by decide +kernel) rfl
theorem kc_X2_differs : Cond.code yX2_differs cX2_differs 2 (some .boolean) ∈ TB := TB_mem 476 (by decide +kernel) rfl
theorem ml_X7_139 : Cond.methodLink RX7 139 yX2_finishRound ∈ TB := TB_mem 477 (by decide +kernel) rfl
theorem im_X2_finishRound : Cond.instanceMethod yX2_finishRound ∈ TB := TB_mem 478 (by decide +kernel) rfl
theorem se_X2_finishRound : Cond.selects RX2 yX2_finishRound yX2_finishRound ∈ TB := TB_mem 479 (by decide +kernel) rfl
theorem kc_X2_finishRound : Cond.code yX2_finishRound cX2_finishRound 1 none ∈ TB := TB_mem 480 (by decide +kernel) rfl
theorem ml_L_53 : Cond.methodLink RL 53 yX7_type ∈ TB := TB_mem 481 (by decide +kernel) rfl
theorem im_X7_type : Cond.instanceMethod yX7_type ∈ TB := TB_mem 482 (by decide +kernel) rfl
theorem se_X7_type : Cond.selects RX7 yX7_type yX7_type ∈ TB := TB_mem 483 (by decide +kernel) rfl
theorem kc_X7_type : Cond.code yX7_type cX7_type 2 (some .int) ∈ TB := TB_mem 484 (by decide +kernel) rfl
theorem ml_X7_145 : Cond.methodLink RX7 145 yX5_append ∈ TB := TB_mem 485 (by decide +kernel) rfl
theorem im_X5_append : Cond.instanceMethod yX5_append ∈ TB := TB_mem 486 (by decide +kernel) rfl
theorem se_X5_append : Cond.selects RX5 yX5_append yX5_append ∈ TB := TB_mem 487 (by decide +kernel) rfl
theorem kc_X5_append : Cond.code yX5_append cX5_append 2 none ∈ TB := TB_mem 488 (by decide +kernel) rfl
theorem ml_L_58 : Cond.methodLink RL 58 yX7_clearText ∈ TB := TB_mem 489 (by decide +kernel) rfl
theorem im_X7_clearText : Cond.instanceMethod yX7_clearText ∈ TB := TB_mem 490 (by decide +kernel) rfl
theorem se_X7_clearText : Cond.selects RX7 yX7_clearText yX7_clearText ∈ TB := TB_mem 491 (by decide +kernel) rfl
theorem kc_X7_clearText : Cond.code yX7_clearText cX7_clearText 2 (some .int) ∈ TB := TB_mem 492 (by decide +kernel) rfl
theorem ml_X7_149 : Cond.methodLink RX7 149 yX5_empty ∈ TB := TB_mem 493 (by decide +kernel) rfl
theorem im_X5_empty : Cond.instanceMethod yX5_empty ∈ TB := TB_mem 494 (by decide +kernel) rfl
theorem se_X5_empty : Cond.selects RX5 yX5_empty yX5_empty ∈ TB := TB_mem 495 (by decide +kernel) rfl
theorem kc_X5_empty : Cond.code yX5_empty cX5_empty 1 none ∈ TB := TB_mem 496 (by decide +kernel) rfl
theorem ml_L_62 : Cond.methodLink RL 62 yX7_undo ∈ TB := TB_mem 497 (by decide +kernel) rfl
theorem im_X7_undo : Cond.instanceMethod yX7_undo ∈ TB := TB_mem 498 (by decide +kernel) rfl
theorem se_X7_undo : Cond.selects RX7 yX7_undo yX7_undo ∈ TB := TB_mem 499 (by decide +kernel) rfl
theorem kc_X7_undo : Cond.code yX7_undo cX7_undo 1 (some .int) ∈ TB := TB_mem 500 (by decide +kernel) rfl
theorem ml_X7_155 : Cond.methodLink RX7 155 yX1_takeLatest ∈ TB := TB_mem 501 (by decide +kernel) rfl
theorem im_X1_takeLatest : Cond.instanceMethod yX1_takeLatest ∈ TB := TB_mem 502 (by decide +kernel) rfl
theorem se_X1_takeLatest : Cond.selects RX1 yX1_takeLatest yX1_takeLatest ∈ TB := TB_mem 503 (by decide +kernel) rfl
theorem kc_X1_takeLatest : Cond.code yX1_takeLatest cX1_takeLatest 2 none ∈ TB := TB_mem 504 (by decide +kernel) rfl
theorem ml_L_66 : Cond.methodLink RL 66 yX7_keep ∈ TB := TB_mem 505 (by decide +kernel) rfl
theorem im_X7_keep : Cond.instanceMethod yX7_keep ∈ TB := TB_mem 506 (by decide +kernel) rfl
theorem se_X7_keep : Cond.selects RX7 yX7_keep yX7_keep ∈ TB := TB_mem 507 (by decide +kernel) rfl
theorem kc_X7_keep : Cond.code yX7_keep cX7_keep 1 (some .int) ∈ TB := TB_mem 508 (by decide +kernel) rfl
theorem ml_X7_158 : Cond.methodLink RX7 158 yX3_copyFrom ∈ TB := TB_mem 509 (by decide +kernel) rfl
theorem ml_L_70 : Cond.methodLink RL 70 yX7_restore ∈ TB := TB_mem 510 (by decide +kernel) rfl
theorem im_X7_restore : Cond.instanceMethod yX7_restore ∈ TB := TB_mem 511 (by decide +kernel) rfl
theorem se_X7_restore : Cond.selects RX7 yX7_restore yX7_restore ∈ TB := TB_mem 512 (by decide +kernel) rfl
theorem kc_X7_restore : Cond.code yX7_restore cX7_restore 1 (some .int) ∈ TB := TB_mem 513 (by decide +kernel) rfl
theorem ml_L_74 : Cond.methodLink RL 74 yX7_weight ∈ TB := TB_mem 514 (by decide +kernel) rfl
theorem im_X7_weight : Cond.instanceMethod yX7_weight ∈ TB := TB_mem 515 (by decide +kernel) rfl
theorem se_X7_weight : Cond.selects RX7 yX7_weight yX7_weight ∈ TB := TB_mem 516 (by decide +kernel) rfl
theorem kc_X7_weight : Cond.code yX7_weight cX7_weight 5 (some .int) ∈ TB := TB_mem 517 (by decide +kernel) rfl
theorem ml_X7_165 : Cond.methodLink RX7 165 yX3_oddsOf ∈ TB := TB_mem 518 (by decide +kernel) rfl
theorem im_X3_oddsOf : Cond.instanceMethod yX3_oddsOf ∈ TB := TB_mem 519 (by decide +kernel) rfl
theorem se_X3_oddsOf : Cond.selects RX3 yX3_oddsOf yX3_oddsOf ∈ TB := TB_mem 520 (by decide +kernel) rfl
theorem kc_X3_oddsOf : Cond.code yX3_oddsOf cX3_oddsOf 12 (some .int) ∈ TB := TB_mem 521 (by decide +kernel) rfl
theorem ml_X3_59 : Cond.methodLink RX3 59 yX3_memberCell ∈ TB := TB_mem 522 (by decide +kernel) rfl
theorem ml_L_79 : Cond.methodLink RL 79 yX7_sign ∈ TB := TB_mem 523 (by decide +kernel) rfl
theorem im_X7_sign : Cond.instanceMethod yX7_sign ∈ TB := TB_mem 524 (by decide +kernel) rfl
theorem se_X7_sign : Cond.selects RX7 yX7_sign yX7_sign ∈ TB := TB_mem 525 (by decide +kernel) rfl
theorem kc_X7_sign : Cond.code yX7_sign cX7_sign 3 (some .int) ∈ TB := TB_mem 526 (by decide +kernel) rfl
theorem ml_X7_168 : Cond.methodLink RX7 168 yX3_hasPlace ∈ TB := TB_mem 527 (by decide +kernel) rfl
theorem im_X3_hasPlace : Cond.instanceMethod yX3_hasPlace ∈ TB := TB_mem 528 (by decide +kernel) rfl
theorem se_X3_hasPlace : Cond.selects RX3 yX3_hasPlace yX3_hasPlace ∈ TB := TB_mem 529 (by decide +kernel) rfl
theorem kc_X3_hasPlace : Cond.code yX3_hasPlace cX3_hasPlace 3 (some .boolean) ∈ TB := TB_mem 530 (by decide +kernel) rfl
theorem ml_X3_37 : Cond.methodLink RX3 37 yX3_hasSample ∈ TB := TB_mem 531 (by decide +kernel) rfl
theorem ml_X7_172 : Cond.methodLink RX7 172 yX3_signAt ∈ TB := TB_mem 532 (by decide +kernel) rfl
theorem ml_L_83 : Cond.methodLink RL 83 yX7_ofSample ∈ TB := TB_mem 533 (by decide +kernel) rfl
theorem im_X7_ofSample : Cond.instanceMethod yX7_ofSample ∈ TB := TB_mem 534 (by decide +kernel) rfl
theorem se_X7_ofSample : Cond.selects RX7 yX7_ofSample yX7_ofSample ∈ TB := TB_mem 535 (by decide +kernel) rfl
theorem kc_X7_ofSample : Cond.code yX7_ofSample cX7_ofSample 3 (some .long) ∈ TB := TB_mem 536 (by decide +kernel) rfl
theorem ko_X7_175 : Cond.constantLong RX7 175 (-1) ∈ TB := TB_mem 537 (by decide +kernel) rfl
theorem ml_X7_177 : Cond.methodLink RX7 177 yX6_read ∈ TB := TB_mem 538 (by decide +kernel) rfl
theorem ml_X7_184 : Cond.methodLink RX7 184 yX4_read ∈ TB := TB_mem 539 (by decide +kernel) rfl
theorem im_X4_read : Cond.instanceMethod yX4_read ∈ TB := TB_mem 540 (by decide +kernel) rfl
theorem se_X4_read : Cond.selects RX4 yX4_read yX4_read ∈ TB := TB_mem 541 (by decide +kernel) rfl
theorem kc_X4_read : Cond.code yX4_read cX4_read 7 none ∈ TB := TB_mem 542 (by decide +kernel) rfl
theorem ml_X4_28 : Cond.methodLink RX4 28 yX4_partsBehind ∈ TB := TB_mem 543 (by decide +kernel) rfl
theorem im_X4_partsBehind : Cond.instanceMethod yX4_partsBehind ∈ TB := TB_mem 545 (by decide +kernel) rfl
theorem kc_X4_partsBehind : Cond.code yX4_partsBehind cX4_partsBehind 5 (some .int) ∈ TB := TB_mem 546 (by decide +kernel) rfl
theorem ml_X4_39 : Cond.methodLink RX4 39 yX4_entering ∈ TB := TB_mem 547 (by decide +kernel) rfl
theorem im_X4_entering : Cond.instanceMethod yX4_entering ∈ TB := TB_mem 549 (by decide +kernel) rfl
theorem kc_X4_entering : Cond.code yX4_entering cX4_entering 5 (some .int) ∈ TB := TB_mem 550 (by decide +kernel) rfl
theorem ml_X4_42 : Cond.methodLink RX4 42 yX3_begin ∈ TB := TB_mem 551 (by decide +kernel) rfl
theorem ml_X4_46 : Cond.methodLink RX4 46 yX3_go ∈ TB := TB_mem 552 (by decide +kernel) rfl
theorem ml_X4_32 : Cond.methodLink RX4 32 yX3_showAt ∈ TB := TB_mem 553 (by decide +kernel) rfl
theorem ml_X7_186 : Cond.methodLink RX7 186 yX0_read ∈ TB := TB_mem 554 (by decide +kernel) rfl
theorem im_X0_read : Cond.instanceMethod yX0_read ∈ TB := TB_mem 555 (by decide +kernel) rfl
theorem se_X0_read : Cond.selects RX0 yX0_read yX0_read ∈ TB := TB_mem 556 (by decide +kernel) rfl
theorem kc_X0_read : Cond.code yX0_read cX0_read 7 none ∈ TB := TB_mem 557 (by decide +kernel) rfl
theorem ml_X0_32 : Cond.methodLink RX0 32 yX0_nextOf ∈ TB := TB_mem 558 (by decide +kernel) rfl
theorem im_X0_nextOf : Cond.instanceMethod yX0_nextOf ∈ TB := TB_mem 560 (by decide +kernel) rfl
theorem kc_X0_nextOf : Cond.code yX0_nextOf cX0_nextOf 5 (some .int) ∈ TB := TB_mem 561 (by decide +kernel) rfl
theorem ml_X0_36 : Cond.methodLink RX0 36 yX0_going ∈ TB := TB_mem 562 (by decide +kernel) rfl
theorem im_X0_going : Cond.instanceMethod yX0_going ∈ TB := TB_mem 564 (by decide +kernel) rfl
theorem kc_X0_going : Cond.code yX0_going cX0_going 4 (some .long) ∈ TB := TB_mem 565 (by decide +kernel) rfl
theorem ml_X0_60 : Cond.methodLink RX0 60 yX3_go ∈ TB := TB_mem 566 (by decide +kernel) rfl
theorem ml_X0_40 : Cond.methodLink RX0 40 yX3_showAt ∈ TB := TB_mem 567 (by decide +kernel) rfl
theorem ml_X0_44 : Cond.methodLink RX0 44 yX0_firstOf ∈ TB := TB_mem 568 (by decide +kernel) rfl
theorem im_X0_firstOf : Cond.instanceMethod yX0_firstOf ∈ TB := TB_mem 570 (by decide +kernel) rfl
theorem kc_X0_firstOf : Cond.code yX0_firstOf cX0_firstOf 3 (some .int) ∈ TB := TB_mem 571 (by decide +kernel) rfl
theorem ml_X0_48 : Cond.methodLink RX0 48 yX0_beginning ∈ TB := TB_mem 572 (by decide +kernel) rfl
theorem im_X0_beginning : Cond.instanceMethod yX0_beginning ∈ TB := TB_mem 574 (by decide +kernel) rfl
theorem kc_X0_beginning : Cond.code yX0_beginning cX0_beginning 2 (some .long) ∈ TB := TB_mem 575 (by decide +kernel) rfl
theorem ml_X0_56 : Cond.methodLink RX0 56 yX3_begin ∈ TB := TB_mem 576 (by decide +kernel) rfl
theorem ko_X7_190 : Cond.constantLong RX7 190 (-2) ∈ TB := TB_mem 577 (by decide +kernel) rfl
theorem ml_L_88 : Cond.methodLink RL 88 yX7_best ∈ TB := TB_mem 578 (by decide +kernel) rfl
theorem im_X7_best : Cond.instanceMethod yX7_best ∈ TB := TB_mem 579 (by decide +kernel) rfl
theorem se_X7_best : Cond.selects RX7 yX7_best yX7_best ∈ TB := TB_mem 580 (by decide +kernel) rfl
theorem kc_X7_best : Cond.code yX7_best cX7_best 3 (some .int) ∈ TB := TB_mem 581 (by decide +kernel) rfl
theorem ml_L_92 : Cond.methodLink RL 92 yX7_share ∈ TB := TB_mem 582 (by decide +kernel) rfl
theorem im_X7_share : Cond.instanceMethod yX7_share ∈ TB := TB_mem 583 (by decide +kernel) rfl
theorem se_X7_share : Cond.selects RX7 yX7_share yX7_share ∈ TB := TB_mem 584 (by decide +kernel) rfl
theorem kc_X7_share : Cond.code yX7_share cX7_share 4 (some .int) ∈ TB := TB_mem 585 (by decide +kernel) rfl
theorem ml_X7_195 : Cond.methodLink RX7 195 yX6_at ∈ TB := TB_mem 586 (by decide +kernel) rfl
theorem ml_X7_199 : Cond.methodLink RX7 199 yX7_shareOf ∈ TB := TB_mem 587 (by decide +kernel) rfl
theorem ml_L_97 : Cond.methodLink RL 97 yX7_likeliest ∈ TB := TB_mem 588 (by decide +kernel) rfl
theorem im_X7_likeliest : Cond.instanceMethod yX7_likeliest ∈ TB := TB_mem 589 (by decide +kernel) rfl
theorem se_X7_likeliest : Cond.selects RX7 yX7_likeliest yX7_likeliest ∈ TB := TB_mem 590 (by decide +kernel) rfl
theorem kc_X7_likeliest : Cond.code yX7_likeliest cX7_likeliest 3 (some .int) ∈ TB := TB_mem 591 (by decide +kernel) rfl
theorem ml_X7_203 : Cond.methodLink RX7 203 yX6_likeliestAt ∈ TB := TB_mem 592 (by decide +kernel) rfl
theorem im_X6_likeliestAt : Cond.instanceMethod yX6_likeliestAt ∈ TB := TB_mem 593 (by decide +kernel) rfl
theorem se_X6_likeliestAt : Cond.selects RX6 yX6_likeliestAt yX6_likeliestAt ∈ TB := TB_mem 594 (by decide +kernel) rfl
theorem kc_X6_likeliestAt : Cond.code yX6_likeliestAt cX6_likeliestAt 4 (some .int) ∈ TB := TB_mem 595 (by decide +kernel) rfl
theorem ml_L_101 : Cond.methodLink RL 101 yX7_doubtful ∈ TB := TB_mem 596 (by decide +kernel) rfl
theorem im_X7_doubtful : Cond.instanceMethod yX7_doubtful ∈ TB := TB_mem 597 (by decide +kernel) rfl
theorem se_X7_doubtful : Cond.selects RX7 yX7_doubtful yX7_doubtful ∈ TB := TB_mem 598 (by decide +kernel) rfl
theorem kc_X7_doubtful : Cond.code yX7_doubtful cX7_doubtful 2 (some .int) ∈ TB := TB_mem 599 (by decide +kernel) rfl
theorem ml_X7_207 : Cond.methodLink RX7 207 yX6_doubtfulPlaces ∈ TB := TB_mem 600 (by decide +kernel) rfl
theorem im_X6_doubtfulPlaces : Cond.instanceMethod yX6_doubtfulPlaces ∈ TB := TB_mem 601 (by decide +kernel) rfl
theorem se_X6_doubtfulPlaces : Cond.selects RX6 yX6_doubtfulPlaces yX6_doubtfulPlaces ∈ TB := TB_mem 602 (by decide +kernel) rfl
theorem kc_X6_doubtfulPlaces : Cond.code yX6_doubtfulPlaces cX6_doubtfulPlaces 3 (some .int) ∈ TB := TB_mem 603 (by decide +kernel) rfl
theorem ml_X6_74 : Cond.methodLink RX6 74 yX6_likeliestAt ∈ TB := TB_mem 604 (by decide +kernel) rfl
theorem ml_X6_77 : Cond.methodLinkNest RX6 77 yX7_shareOf "HiddenRuns" ∈ nestW := NW_mem 605 (by decide +kernel) rfl
theorem ml_L_105 : Cond.methodLink RL 105 yX7_run ∈ TB := TB_mem 606 (by decide +kernel) rfl
theorem im_X7_run : Cond.instanceMethod yX7_run ∈ TB := TB_mem 607 (by decide +kernel) rfl
theorem se_X7_run : Cond.selects RX7 yX7_run yX7_run ∈ TB := TB_mem 608 (by decide +kernel) rfl
theorem kc_X7_run : Cond.code yX7_run cX7_run 4 (some .int) ∈ TB := TB_mem 609 (by decide +kernel) rfl
theorem ml_X7_210 : Cond.methodLink RX7 210 yX4_stateAt ∈ TB := TB_mem 610 (by decide +kernel) rfl
theorem im_X4_stateAt : Cond.instanceMethod yX4_stateAt ∈ TB := TB_mem 611 (by decide +kernel) rfl
theorem se_X4_stateAt : Cond.selects RX4 yX4_stateAt yX4_stateAt ∈ TB := TB_mem 612 (by decide +kernel) rfl
theorem kc_X4_stateAt : Cond.code yX4_stateAt cX4_stateAt 7 (some .int) ∈ TB := TB_mem 613 (by decide +kernel) rfl
theorem ml_L_109 : Cond.methodLink RL 109 yX7_next ∈ TB := TB_mem 614 (by decide +kernel) rfl
theorem im_X7_next : Cond.instanceMethod yX7_next ∈ TB := TB_mem 615 (by decide +kernel) rfl
theorem se_X7_next : Cond.selects RX7 yX7_next yX7_next ∈ TB := TB_mem 616 (by decide +kernel) rfl
theorem kc_X7_next : Cond.code yX7_next cX7_next 6 (some .int) ∈ TB := TB_mem 617 (by decide +kernel) rfl
theorem ml_X7_213 : Cond.methodLink RX7 213 yX6_behindLast ∈ TB := TB_mem 618 (by decide +kernel) rfl
theorem im_X6_behindLast : Cond.instanceMethod yX6_behindLast ∈ TB := TB_mem 619 (by decide +kernel) rfl
theorem se_X6_behindLast : Cond.selects RX6 yX6_behindLast yX6_behindLast ∈ TB := TB_mem 620 (by decide +kernel) rfl
theorem kc_X6_behindLast : Cond.code yX6_behindLast cX6_behindLast 8 (some .long) ∈ TB := TB_mem 621 (by decide +kernel) rfl
theorem ml_X6_71 : Cond.methodLink RX6 71 yX3_show ∈ TB := TB_mem 622 (by decide +kernel) rfl
theorem ml_L_113 : Cond.methodLink RL 113 yX7_count ∈ TB := TB_mem 623 (by decide +kernel) rfl
theorem im_X7_count : Cond.instanceMethod yX7_count ∈ TB := TB_mem 624 (by decide +kernel) rfl
theorem se_X7_count : Cond.selects RX7 yX7_count yX7_count ∈ TB := TB_mem 625 (by decide +kernel) rfl
theorem kc_X7_count : Cond.code yX7_count cX7_count 2 (some .int) ∈ TB := TB_mem 626 (by decide +kernel) rfl
theorem ml_X7_217 : Cond.methodLink RX7 217 yX3_allSigns ∈ TB := TB_mem 627 (by decide +kernel) rfl
theorem im_X3_allSigns : Cond.instanceMethod yX3_allSigns ∈ TB := TB_mem 628 (by decide +kernel) rfl
theorem se_X3_allSigns : Cond.selects RX3 yX3_allSigns yX3_allSigns ∈ TB := TB_mem 629 (by decide +kernel) rfl
theorem kc_X3_allSigns : Cond.code yX3_allSigns cX3_allSigns 3 (some .int) ∈ TB := TB_mem 630 (by decide +kernel) rfl
theorem ml_X7_220 : Cond.methodLink RX7 220 yX7_allDoubtful ∈ TB := TB_mem 631 (by decide +kernel) rfl
theorem im_X7_allDoubtful : Cond.instanceMethod yX7_allDoubtful ∈ TB := TB_mem 633 (by decide +kernel) rfl
theorem kc_X7_allDoubtful : Cond.code yX7_allDoubtful cX7_allDoubtful 3 (some .int) ∈ TB := TB_mem 634 (by decide +kernel) rfl
theorem ml_X7_231 : Cond.methodLink RX7 231 yJ6_bitCount_0f7a4 ∈ TB := TB_mem 635 (by decide +kernel) rfl
theorem sm_J6_bitCount_0f7a4 : Cond.static yJ6_bitCount_0f7a4 ∈ TB := TB_mem 636 (by decide +kernel) rfl
theorem kc_J6_bitCount_0f7a4 : Cond.code yJ6_bitCount_0f7a4 cJ6_bitCount_0f7a4 1 (some .int) ∈ TB := TB_mem 637 (by decide +kernel) rfl
theorem ko_J6_265 : Cond.constant RJ6 265 (1431655765) ∈ TB := TB_mem 638 (by decide +kernel) rfl
theorem ko_J6_266 : Cond.constant RJ6 266 (858993459) ∈ TB := TB_mem 639 (by decide +kernel) rfl
theorem ko_J6_267 : Cond.constant RJ6 267 (252645135) ∈ TB := TB_mem 640 (by decide +kernel) rfl
theorem ml_X7_223 : Cond.methodLink RX7 223 yX7_samplesWithoutTotal ∈ TB := TB_mem 641 (by decide +kernel) rfl
theorem im_X7_samplesWithoutTotal : Cond.instanceMethod yX7_samplesWithoutTotal ∈ TB := TB_mem 643 (by decide +kernel) rfl
theorem kc_X7_samplesWithoutTotal : Cond.code yX7_samplesWithoutTotal cX7_samplesWithoutTotal 3 (some .int) ∈ TB := TB_mem 644 (by decide +kernel) rfl
theorem ml_X7_226 : Cond.methodLink RX7 226 yX7_placesOffBest ∈ TB := TB_mem 645 (by decide +kernel) rfl
theorem im_X7_placesOffBest : Cond.instanceMethod yX7_placesOffBest ∈ TB := TB_mem 647 (by decide +kernel) rfl
theorem kc_X7_placesOffBest : Cond.code yX7_placesOffBest cX7_placesOffBest 3 (some .int) ∈ TB := TB_mem 648 (by decide +kernel) rfl
theorem ml_X7_239 : Cond.methodLink RX7 239 yX7_placesOffPath ∈ TB := TB_mem 649 (by decide +kernel) rfl
theorem im_X7_placesOffPath : Cond.instanceMethod yX7_placesOffPath ∈ TB := TB_mem 651 (by decide +kernel) rfl
theorem kc_X7_placesOffPath : Cond.code yX7_placesOffPath cX7_placesOffPath 4 (some .int) ∈ TB := TB_mem 652 (by decide +kernel) rfl
theorem cl_L_10 : Cond.classLink RL 10 RX8 ∈ TB := TB_mem 653 (by decide +kernel) rfl
theorem ib_X8 : Cond.instantiable RX8 20 ∈ TB := TB_mem 654 (by decide +kernel) rfl
theorem ml_L_12 : Cond.methodLink RL 12 yX8_init ∈ TB := TB_mem 655 (by decide +kernel) rfl
theorem im_X8_init : Cond.instanceMethod yX8_init ∈ TB := TB_mem 656 (by decide +kernel) rfl
theorem kc_X8_init : Cond.code yX8_init cX8_init 2 none ∈ TB := TB_mem 657 (by decide +kernel) rfl
theorem ml_X8_1 : Cond.methodLink RX8 1 objectInit ∈ TB := TB_mem 658 (by decide +kernel) rfl
theorem ml_X8_54 : Cond.methodLink RX8 54 yX8_fills ∈ TB := TB_mem 659 (by decide +kernel) rfl
theorem im_X8_fills : Cond.instanceMethod yX8_fills ∈ TB := TB_mem 661 (by decide +kernel) rfl
theorem kc_X8_fills : Cond.code yX8_fills cX8_fills 3 none ∈ TB := TB_mem 662 (by decide +kernel) rfl
theorem fl_X8_50 : Cond.fieldLink RX8 50 "HiddenRunsModel" "thrown" "I" ∈ TB := TB_mem 663 (by decide +kernel) rfl
theorem fl_X8_7 : Cond.fieldLink RX8 7 "HiddenRunsModel" "s" "[I" ∈ TB := TB_mem 664 (by decide +kernel) rfl
theorem fl_X8_13 : Cond.fieldLink RX8 13 "HiddenRunsModel" "aside" "[I" ∈ TB := TB_mem 665 (by decide +kernel) rfl
theorem fl_X8_16 : Cond.fieldLink RX8 16 "HiddenRunsModel" "saved" "[I" ∈ TB := TB_mem 666 (by decide +kernel) rfl
theorem fl_X8_62 : Cond.fieldLink RX8 62 "HiddenRunsModel" "savedMany" "I" ∈ TB := TB_mem 667 (by decide +kernel) rfl
theorem fl_X8_19 : Cond.fieldLink RX8 19 "HiddenRunsModel" "snapshot" "[I" ∈ TB := TB_mem 668 (by decide +kernel) rfl
theorem fl_X8_171 : Cond.fieldLink RX8 171 "HiddenRunsModel" "hasSnapshot" "Z" ∈ TB := TB_mem 669 (by decide +kernel) rfl
theorem fl_X8_22 : Cond.fieldLink RX8 22 "HiddenRunsModel" "text" "[I" ∈ TB := TB_mem 670 (by decide +kernel) rfl
theorem fl_X8_120 : Cond.fieldLink RX8 120 "HiddenRunsModel" "length" "I" ∈ TB := TB_mem 671 (by decide +kernel) rfl
theorem fl_X8_25 : Cond.fieldLink RX8 25 "HiddenRunsModel" "up" "[J" ∈ TB := TB_mem 672 (by decide +kernel) rfl
theorem fl_X8_29 : Cond.fieldLink RX8 29 "HiddenRunsModel" "behind" "[J" ∈ TB := TB_mem 673 (by decide +kernel) rfl
theorem fl_X8_32 : Cond.fieldLink RX8 32 "HiddenRunsModel" "greatest" "[J" ∈ TB := TB_mem 674 (by decide +kernel) rfl
theorem fl_X8_35 : Cond.fieldLink RX8 35 "HiddenRunsModel" "many" "[J" ∈ TB := TB_mem 675 (by decide +kernel) rfl
theorem fl_X8_38 : Cond.fieldLink RX8 38 "HiddenRunsModel" "counts" "[J" ∈ TB := TB_mem 676 (by decide +kernel) rfl
theorem fl_X8_41 : Cond.fieldLink RX8 41 "HiddenRunsModel" "rests" "[I" ∈ TB := TB_mem 677 (by decide +kernel) rfl
theorem fl_X8_44 : Cond.fieldLink RX8 44 "HiddenRunsModel" "odds" "[I" ∈ TB := TB_mem 678 (by decide +kernel) rfl
theorem fl_X8_117 : Cond.fieldLink RX8 117 "HiddenRunsModel" "at" "I" ∈ TB := TB_mem 679 (by decide +kernel) rfl
theorem fl_X8_130 : Cond.fieldLink RX8 130 "HiddenRunsModel" "isWell" "Z" ∈ TB := TB_mem 680 (by decide +kernel) rfl
theorem fl_X8_47 : Cond.fieldLink RX8 47 "HiddenRunsModel" "told" "[I" ∈ TB := TB_mem 681 (by decide +kernel) rfl
theorem fl_X8_127 : Cond.fieldLink RX8 127 "HiddenRunsModel" "toldMany" "I" ∈ TB := TB_mem 682 (by decide +kernel) rfl
theorem ml_L_17 : Cond.methodLink RL 17 yX8_setWeight ∈ TB := TB_mem 724 (by decide +kernel) rfl
theorem im_X8_setWeight : Cond.instanceMethod yX8_setWeight ∈ TB := TB_mem 725 (by decide +kernel) rfl
theorem se_X8_setWeight : Cond.selects RX8 yX8_setWeight yX8_setWeight ∈ TB := TB_mem 726 (by decide +kernel) rfl
theorem kc_X8_setWeight : Cond.code yX8_setWeight cX8_setWeight 7 (some .int) ∈ TB := TB_mem 727 (by decide +kernel) rfl
theorem ml_X8_101 : Cond.methodLink RX8 101 yX8_placeOf ∈ TB := TB_mem 728 (by decide +kernel) rfl
theorem im_X8_placeOf : Cond.instanceMethod yX8_placeOf ∈ TB := TB_mem 730 (by decide +kernel) rfl
theorem kc_X8_placeOf : Cond.code yX8_placeOf cX8_placeOf 5 (some .int) ∈ TB := TB_mem 731 (by decide +kernel) rfl
theorem ml_X8_58 : Cond.methodLink RX8 58 yX8_in ∈ TB := TB_mem 732 (by decide +kernel) rfl
theorem sm_X8_in : Cond.static yX8_in ∈ TB := TB_mem 733 (by decide +kernel) rfl
theorem kc_X8_in : Cond.code yX8_in cX8_in 3 (some .boolean) ∈ TB := TB_mem 734 (by decide +kernel) rfl
theorem ml_X8_97 : Cond.methodLink RX8 97 yX8_isState ∈ TB := TB_mem 735 (by decide +kernel) rfl
theorem im_X8_isState : Cond.instanceMethod yX8_isState ∈ TB := TB_mem 737 (by decide +kernel) rfl
theorem kc_X8_isState : Cond.code yX8_isState cX8_isState 2 (some .boolean) ∈ TB := TB_mem 738 (by decide +kernel) rfl
theorem ml_X8_105 : Cond.methodLink RX8 105 yX8_records ∈ TB := TB_mem 739 (by decide +kernel) rfl
theorem im_X8_records : Cond.instanceMethod yX8_records ∈ TB := TB_mem 741 (by decide +kernel) rfl
theorem kc_X8_records : Cond.code yX8_records cX8_records 2 none ∈ TB := TB_mem 742 (by decide +kernel) rfl
theorem ml_L_22 : Cond.methodLink RL 22 yX8_addState ∈ TB := TB_mem 743 (by decide +kernel) rfl
theorem im_X8_addState : Cond.instanceMethod yX8_addState ∈ TB := TB_mem 744 (by decide +kernel) rfl
theorem se_X8_addState : Cond.selects RX8 yX8_addState yX8_addState ∈ TB := TB_mem 745 (by decide +kernel) rfl
theorem kc_X8_addState : Cond.code yX8_addState cX8_addState 1 (some .int) ∈ TB := TB_mem 746 (by decide +kernel) rfl
theorem ml_L_27 : Cond.methodLink RL 27 yX8_split ∈ TB := TB_mem 747 (by decide +kernel) rfl
theorem im_X8_split : Cond.instanceMethod yX8_split ∈ TB := TB_mem 748 (by decide +kernel) rfl
theorem se_X8_split : Cond.selects RX8 yX8_split yX8_split ∈ TB := TB_mem 749 (by decide +kernel) rfl
theorem kc_X8_split : Cond.code yX8_split cX8_split 5 (some .int) ∈ TB := TB_mem 750 (by decide +kernel) rfl
theorem ml_X8_76 : Cond.methodLink RX8 76 yX8_go ∈ TB := TB_mem 751 (by decide +kernel) rfl
theorem im_X8_go : Cond.instanceMethod yX8_go ∈ TB := TB_mem 753 (by decide +kernel) rfl
theorem kc_X8_go : Cond.code yX8_go cX8_go 3 (some .int) ∈ TB := TB_mem 754 (by decide +kernel) rfl
theorem ml_X8_73 : Cond.methodLink RX8 73 yX8_show ∈ TB := TB_mem 755 (by decide +kernel) rfl
theorem im_X8_show : Cond.instanceMethod yX8_show ∈ TB := TB_mem 757 (by decide +kernel) rfl
theorem kc_X8_show : Cond.code yX8_show cX8_show 3 (some .int) ∈ TB := TB_mem 758 (by decide +kernel) rfl
theorem ml_L_32 : Cond.methodLink RL 32 yX8_join ∈ TB := TB_mem 759 (by decide +kernel) rfl
theorem im_X8_join : Cond.instanceMethod yX8_join ∈ TB := TB_mem 760 (by decide +kernel) rfl
theorem se_X8_join : Cond.selects RX8 yX8_join yX8_join ∈ TB := TB_mem 761 (by decide +kernel) rfl
theorem kc_X8_join : Cond.code yX8_join cX8_join 7 (some .int) ∈ TB := TB_mem 762 (by decide +kernel) rfl
theorem ml_X8_111 : Cond.methodLink RX8 111 yX8_capped ∈ TB := TB_mem 763 (by decide +kernel) rfl
theorem sm_X8_capped : Cond.static yX8_capped ∈ TB := TB_mem 764 (by decide +kernel) rfl
theorem kc_X8_capped : Cond.code yX8_capped cX8_capped 1 (some .int) ∈ TB := TB_mem 765 (by decide +kernel) rfl
theorem ml_X8_114 : Cond.methodLink RX8 114 yX8_drops ∈ TB := TB_mem 766 (by decide +kernel) rfl
theorem im_X8_drops : Cond.instanceMethod yX8_drops ∈ TB := TB_mem 768 (by decide +kernel) rfl
theorem kc_X8_drops : Cond.code yX8_drops cX8_drops 4 none ∈ TB := TB_mem 769 (by decide +kernel) rfl
theorem ml_X8_108 : Cond.methodLink RX8 108 yX8_clears ∈ TB := TB_mem 770 (by decide +kernel) rfl
theorem im_X8_clears : Cond.instanceMethod yX8_clears ∈ TB := TB_mem 772 (by decide +kernel) rfl
theorem kc_X8_clears : Cond.code yX8_clears cX8_clears 3 none ∈ TB := TB_mem 773 (by decide +kernel) rfl
theorem ml_L_36 : Cond.methodLink RL 36 yX8_removeState ∈ TB := TB_mem 774 (by decide +kernel) rfl
theorem im_X8_removeState : Cond.instanceMethod yX8_removeState ∈ TB := TB_mem 775 (by decide +kernel) rfl
theorem se_X8_removeState : Cond.selects RX8 yX8_removeState yX8_removeState ∈ TB := TB_mem 776 (by decide +kernel) rfl
theorem kc_X8_removeState : Cond.code yX8_removeState cX8_removeState 2 (some .int) ∈ TB := TB_mem 777 (by decide +kernel) rfl
theorem ml_L_40 : Cond.methodLink RL 40 yX8_setBound ∈ TB := TB_mem 778 (by decide +kernel) rfl
theorem im_X8_setBound : Cond.instanceMethod yX8_setBound ∈ TB := TB_mem 779 (by decide +kernel) rfl
theorem se_X8_setBound : Cond.selects RX8 yX8_setBound yX8_setBound ∈ TB := TB_mem 780 (by decide +kernel) rfl
theorem kc_X8_setBound : Cond.code yX8_setBound cX8_setBound 3 (some .int) ∈ TB := TB_mem 781 (by decide +kernel) rfl
theorem ml_L_44 : Cond.methodLink RL 44 yX8_addSamples ∈ TB := TB_mem 782 (by decide +kernel) rfl
theorem im_X8_addSamples : Cond.instanceMethod yX8_addSamples ∈ TB := TB_mem 783 (by decide +kernel) rfl
theorem se_X8_addSamples : Cond.selects RX8 yX8_addSamples yX8_addSamples ∈ TB := TB_mem 784 (by decide +kernel) rfl
theorem kc_X8_addSamples : Cond.code yX8_addSamples cX8_addSamples 4 (some .int) ∈ TB := TB_mem 785 (by decide +kernel) rfl
theorem ml_X8_137 : Cond.methodLink RX8 137 yX8_reads ∈ TB := TB_mem 786 (by decide +kernel) rfl
theorem im_X8_reads : Cond.instanceMethod yX8_reads ∈ TB := TB_mem 788 (by decide +kernel) rfl
theorem kc_X8_reads : Cond.code yX8_reads cX8_reads 1 (some .int) ∈ TB := TB_mem 789 (by decide +kernel) rfl
theorem ml_X8_134 : Cond.methodLink RX8 134 yX8_readsSample ∈ TB := TB_mem 790 (by decide +kernel) rfl
theorem im_X8_readsSample : Cond.instanceMethod yX8_readsSample ∈ TB := TB_mem 792 (by decide +kernel) rfl
theorem kc_X8_readsSample : Cond.code yX8_readsSample cX8_readsSample 2 none ∈ TB := TB_mem 793 (by decide +kernel) rfl
theorem ml_X8_123 : Cond.methodLink RX8 123 yX8_letter ∈ TB := TB_mem 794 (by decide +kernel) rfl
theorem im_X8_letter : Cond.instanceMethod yX8_letter ∈ TB := TB_mem 796 (by decide +kernel) rfl
theorem kc_X8_letter : Cond.code yX8_letter cX8_letter 1 (some .int) ∈ TB := TB_mem 797 (by decide +kernel) rfl
theorem ml_L_48 : Cond.methodLink RL 48 yX8_removeSample ∈ TB := TB_mem 798 (by decide +kernel) rfl
theorem im_X8_removeSample : Cond.instanceMethod yX8_removeSample ∈ TB := TB_mem 799 (by decide +kernel) rfl
theorem se_X8_removeSample : Cond.selects RX8 yX8_removeSample yX8_removeSample ∈ TB := TB_mem 800 (by decide +kernel) rfl
theorem kc_X8_removeSample : Cond.code yX8_removeSample cX8_removeSample 3 (some .int) ∈ TB := TB_mem 801 (by decide +kernel) rfl
theorem ml_X8_140 : Cond.methodLink RX8 140 yX8_isSample ∈ TB := TB_mem 802 (by decide +kernel) rfl
theorem im_X8_isSample : Cond.instanceMethod yX8_isSample ∈ TB := TB_mem 804 (by decide +kernel) rfl
theorem kc_X8_isSample : Cond.code yX8_isSample cX8_isSample 2 (some .boolean) ∈ TB := TB_mem 805 (by decide +kernel) rfl
theorem ml_L_52 : Cond.methodLink RL 52 yX8_learn ∈ TB := TB_mem 806 (by decide +kernel) rfl
theorem im_X8_learn : Cond.instanceMethod yX8_learn ∈ TB := TB_mem 807 (by decide +kernel) rfl
theorem se_X8_learn : Cond.selects RX8 yX8_learn yX8_learn ∈ TB := TB_mem 808 (by decide +kernel) rfl
theorem kc_X8_learn : Cond.code yX8_learn cX8_learn 3 (some .int) ∈ TB := TB_mem 809 (by decide +kernel) rfl
theorem ml_X8_164 : Cond.methodLink RX8 164 yX8_learnsOnce ∈ TB := TB_mem 810 (by decide +kernel) rfl
theorem im_X8_learnsOnce : Cond.instanceMethod yX8_learnsOnce ∈ TB := TB_mem 812 (by decide +kernel) rfl
theorem kc_X8_learnsOnce : Cond.code yX8_learnsOnce cX8_learnsOnce 4 (some .boolean) ∈ TB := TB_mem 813 (by decide +kernel) rfl
theorem ml_X8_151 : Cond.methodLink RX8 151 yX8_laysRuns ∈ TB := TB_mem 814 (by decide +kernel) rfl
theorem im_X8_laysRuns : Cond.instanceMethod yX8_laysRuns ∈ TB := TB_mem 816 (by decide +kernel) rfl
theorem kc_X8_laysRuns : Cond.code yX8_laysRuns cX8_laysRuns 8 none ∈ TB := TB_mem 817 (by decide +kernel) rfl
theorem ml_X8_65 : Cond.methodLink RX8 65 yX8_placesOf ∈ TB := TB_mem 818 (by decide +kernel) rfl
theorem im_X8_placesOf : Cond.instanceMethod yX8_placesOf ∈ TB := TB_mem 820 (by decide +kernel) rfl
theorem kc_X8_placesOf : Cond.code yX8_placesOf cX8_placesOf 2 (some .int) ∈ TB := TB_mem 821 (by decide +kernel) rfl
theorem ml_X8_69 : Cond.methodLink RX8 69 yX8_signAt ∈ TB := TB_mem 822 (by decide +kernel) rfl
theorem im_X8_signAt : Cond.instanceMethod yX8_signAt ∈ TB := TB_mem 824 (by decide +kernel) rfl
theorem kc_X8_signAt : Cond.code yX8_signAt cX8_signAt 3 (some .int) ∈ TB := TB_mem 825 (by decide +kernel) rfl
theorem ml_X8_79 : Cond.methodLink RX8 79 yX8_laysBehind ∈ TB := TB_mem 826 (by decide +kernel) rfl
theorem im_X8_laysBehind : Cond.instanceMethod yX8_laysBehind ∈ TB := TB_mem 828 (by decide +kernel) rfl
theorem kc_X8_laysBehind : Cond.code yX8_laysBehind cX8_laysBehind 15 none ∈ TB := TB_mem 829 (by decide +kernel) rfl
theorem ml_X8_83 : Cond.methodLink RX8 83 yX8_step ∈ TB := TB_mem 830 (by decide +kernel) rfl
theorem im_X8_step : Cond.instanceMethod yX8_step ∈ TB := TB_mem 832 (by decide +kernel) rfl
theorem kc_X8_step : Cond.code yX8_step cX8_step 5 (some .long) ∈ TB := TB_mem 833 (by decide +kernel) rfl
theorem ml_X8_154 : Cond.methodLink RX8 154 yX8_total ∈ TB := TB_mem 834 (by decide +kernel) rfl
theorem im_X8_total : Cond.instanceMethod yX8_total ∈ TB := TB_mem 836 (by decide +kernel) rfl
theorem kc_X8_total : Cond.code yX8_total cX8_total 4 (some .long) ∈ TB := TB_mem 837 (by decide +kernel) rfl
theorem ml_X8_87 : Cond.methodLink RX8 87 yX8_weightAt ∈ TB := TB_mem 838 (by decide +kernel) rfl
theorem im_X8_weightAt : Cond.instanceMethod yX8_weightAt ∈ TB := TB_mem 840 (by decide +kernel) rfl
theorem kc_X8_weightAt : Cond.code yX8_weightAt cX8_weightAt 3 (some .long) ∈ TB := TB_mem 841 (by decide +kernel) rfl
theorem ml_X8_157 : Cond.methodLink RX8 157 yX8_counts ∈ TB := TB_mem 842 (by decide +kernel) rfl
theorem im_X8_counts : Cond.instanceMethod yX8_counts ∈ TB := TB_mem 844 (by decide +kernel) rfl
theorem kc_X8_counts : Cond.code yX8_counts cX8_counts 9 none ∈ TB := TB_mem 845 (by decide +kernel) rfl
theorem ml_X8_143 : Cond.methodLink RX8 143 yX8_shareOf ∈ TB := TB_mem 846 (by decide +kernel) rfl
theorem sm_X8_shareOf : Cond.static yX8_shareOf ∈ TB := TB_mem 847 (by decide +kernel) rfl
theorem kc_X8_shareOf : Cond.code yX8_shareOf cX8_shareOf 9 (some .int) ∈ TB := TB_mem 848 (by decide +kernel) rfl
theorem ko_X8_91 : Cond.constantLong RX8 91 (10) ∈ TB := TB_mem 849 (by decide +kernel) rfl
theorem ml_X8_160 : Cond.methodLink RX8 160 yX8_learnsFamily ∈ TB := TB_mem 850 (by decide +kernel) rfl
theorem im_X8_learnsFamily : Cond.instanceMethod yX8_learnsFamily ∈ TB := TB_mem 852 (by decide +kernel) rfl
theorem kc_X8_learnsFamily : Cond.code yX8_learnsFamily cX8_learnsFamily 8 (some .boolean) ∈ TB := TB_mem 853 (by decide +kernel) rfl
theorem ko_X8_147 : Cond.constantLong RX8 147 (6) ∈ TB := TB_mem 854 (by decide +kernel) rfl
theorem ko_X8_149 : Cond.constantLong RX8 149 (2) ∈ TB := TB_mem 855 (by decide +kernel) rfl
theorem ml_X8_168 : Cond.methodLink RX8 168 yX8_swapsAside ∈ TB := TB_mem 856 (by decide +kernel) rfl
theorem im_X8_swapsAside : Cond.instanceMethod yX8_swapsAside ∈ TB := TB_mem 858 (by decide +kernel) rfl
theorem kc_X8_swapsAside : Cond.code yX8_swapsAside cX8_swapsAside 3 none ∈ TB := TB_mem 859 (by decide +kernel) rfl
theorem ml_L_57 : Cond.methodLink RL 57 yX8_type ∈ TB := TB_mem 860 (by decide +kernel) rfl
theorem im_X8_type : Cond.instanceMethod yX8_type ∈ TB := TB_mem 861 (by decide +kernel) rfl
theorem se_X8_type : Cond.selects RX8 yX8_type yX8_type ∈ TB := TB_mem 862 (by decide +kernel) rfl
theorem kc_X8_type : Cond.code yX8_type cX8_type 2 (some .int) ∈ TB := TB_mem 863 (by decide +kernel) rfl
theorem ml_L_61 : Cond.methodLink RL 61 yX8_clearText ∈ TB := TB_mem 864 (by decide +kernel) rfl
theorem im_X8_clearText : Cond.instanceMethod yX8_clearText ∈ TB := TB_mem 865 (by decide +kernel) rfl
theorem se_X8_clearText : Cond.selects RX8 yX8_clearText yX8_clearText ∈ TB := TB_mem 866 (by decide +kernel) rfl
theorem kc_X8_clearText : Cond.code yX8_clearText cX8_clearText 2 (some .int) ∈ TB := TB_mem 867 (by decide +kernel) rfl
theorem ml_L_65 : Cond.methodLink RL 65 yX8_undo ∈ TB := TB_mem 868 (by decide +kernel) rfl
theorem im_X8_undo : Cond.instanceMethod yX8_undo ∈ TB := TB_mem 869 (by decide +kernel) rfl
theorem se_X8_undo : Cond.selects RX8 yX8_undo yX8_undo ∈ TB := TB_mem 870 (by decide +kernel) rfl
theorem kc_X8_undo : Cond.code yX8_undo cX8_undo 2 (some .int) ∈ TB := TB_mem 871 (by decide +kernel) rfl
theorem ml_L_69 : Cond.methodLink RL 69 yX8_keep ∈ TB := TB_mem 872 (by decide +kernel) rfl
theorem im_X8_keep : Cond.instanceMethod yX8_keep ∈ TB := TB_mem 873 (by decide +kernel) rfl
theorem se_X8_keep : Cond.selects RX8 yX8_keep yX8_keep ∈ TB := TB_mem 874 (by decide +kernel) rfl
theorem kc_X8_keep : Cond.code yX8_keep cX8_keep 2 (some .int) ∈ TB := TB_mem 875 (by decide +kernel) rfl
theorem ml_L_73 : Cond.methodLink RL 73 yX8_restore ∈ TB := TB_mem 876 (by decide +kernel) rfl
theorem im_X8_restore : Cond.instanceMethod yX8_restore ∈ TB := TB_mem 877 (by decide +kernel) rfl
theorem se_X8_restore : Cond.selects RX8 yX8_restore yX8_restore ∈ TB := TB_mem 878 (by decide +kernel) rfl
theorem kc_X8_restore : Cond.code yX8_restore cX8_restore 2 (some .int) ∈ TB := TB_mem 879 (by decide +kernel) rfl
theorem ml_L_78 : Cond.methodLink RL 78 yX8_weight ∈ TB := TB_mem 880 (by decide +kernel) rfl
theorem im_X8_weight : Cond.instanceMethod yX8_weight ∈ TB := TB_mem 881 (by decide +kernel) rfl
theorem se_X8_weight : Cond.selects RX8 yX8_weight yX8_weight ∈ TB := TB_mem 882 (by decide +kernel) rfl
theorem kc_X8_weight : Cond.code yX8_weight cX8_weight 6 (some .int) ∈ TB := TB_mem 883 (by decide +kernel) rfl
theorem ml_X8_174 : Cond.methodLink RX8 174 yX8_oddsOf ∈ TB := TB_mem 884 (by decide +kernel) rfl
theorem im_X8_oddsOf : Cond.instanceMethod yX8_oddsOf ∈ TB := TB_mem 886 (by decide +kernel) rfl
theorem kc_X8_oddsOf : Cond.code yX8_oddsOf cX8_oddsOf 4 (some .int) ∈ TB := TB_mem 887 (by decide +kernel) rfl
theorem ml_X8_177 : Cond.methodLink RX8 177 yX8_laysOdds ∈ TB := TB_mem 888 (by decide +kernel) rfl
theorem im_X8_laysOdds : Cond.instanceMethod yX8_laysOdds ∈ TB := TB_mem 890 (by decide +kernel) rfl
theorem kc_X8_laysOdds : Cond.code yX8_laysOdds cX8_laysOdds 7 none ∈ TB := TB_mem 891 (by decide +kernel) rfl
theorem ml_L_82 : Cond.methodLink RL 82 yX8_sign ∈ TB := TB_mem 892 (by decide +kernel) rfl
theorem im_X8_sign : Cond.instanceMethod yX8_sign ∈ TB := TB_mem 893 (by decide +kernel) rfl
theorem se_X8_sign : Cond.selects RX8 yX8_sign yX8_sign ∈ TB := TB_mem 894 (by decide +kernel) rfl
theorem kc_X8_sign : Cond.code yX8_sign cX8_sign 3 (some .int) ∈ TB := TB_mem 895 (by decide +kernel) rfl
theorem ml_X8_181 : Cond.methodLink RX8 181 yX8_isPlace ∈ TB := TB_mem 896 (by decide +kernel) rfl
theorem im_X8_isPlace : Cond.instanceMethod yX8_isPlace ∈ TB := TB_mem 898 (by decide +kernel) rfl
theorem kc_X8_isPlace : Cond.code yX8_isPlace cX8_isPlace 3 (some .boolean) ∈ TB := TB_mem 899 (by decide +kernel) rfl
theorem ml_L_87 : Cond.methodLink RL 87 yX8_ofSample ∈ TB := TB_mem 900 (by decide +kernel) rfl
theorem im_X8_ofSample : Cond.instanceMethod yX8_ofSample ∈ TB := TB_mem 901 (by decide +kernel) rfl
theorem se_X8_ofSample : Cond.selects RX8 yX8_ofSample yX8_ofSample ∈ TB := TB_mem 902 (by decide +kernel) rfl
theorem kc_X8_ofSample : Cond.code yX8_ofSample cX8_ofSample 3 (some .long) ∈ TB := TB_mem 903 (by decide +kernel) rfl
theorem ko_X8_184 : Cond.constantLong RX8 184 (-1) ∈ TB := TB_mem 904 (by decide +kernel) rfl
theorem ko_X8_186 : Cond.constantLong RX8 186 (-2) ∈ TB := TB_mem 905 (by decide +kernel) rfl
theorem ml_X8_188 : Cond.methodLink RX8 188 yX8_runsThatCount ∈ TB := TB_mem 906 (by decide +kernel) rfl
theorem im_X8_runsThatCount : Cond.instanceMethod yX8_runsThatCount ∈ TB := TB_mem 908 (by decide +kernel) rfl
theorem kc_X8_runsThatCount : Cond.code yX8_runsThatCount cX8_runsThatCount 4 (some .long) ∈ TB := TB_mem 909 (by decide +kernel) rfl
theorem ml_X8_93 : Cond.methodLink RX8 93 yX8_bestWeight ∈ TB := TB_mem 910 (by decide +kernel) rfl
theorem im_X8_bestWeight : Cond.instanceMethod yX8_bestWeight ∈ TB := TB_mem 912 (by decide +kernel) rfl
theorem kc_X8_bestWeight : Cond.code yX8_bestWeight cX8_bestWeight 6 (some .long) ∈ TB := TB_mem 913 (by decide +kernel) rfl
theorem ml_L_91 : Cond.methodLink RL 91 yX8_best ∈ TB := TB_mem 914 (by decide +kernel) rfl
theorem im_X8_best : Cond.instanceMethod yX8_best ∈ TB := TB_mem 915 (by decide +kernel) rfl
theorem se_X8_best : Cond.selects RX8 yX8_best yX8_best ∈ TB := TB_mem 916 (by decide +kernel) rfl
theorem kc_X8_best : Cond.code yX8_best cX8_best 3 (some .int) ∈ TB := TB_mem 917 (by decide +kernel) rfl
theorem ml_X8_191 : Cond.methodLink RX8 191 yX8_bestAt ∈ TB := TB_mem 918 (by decide +kernel) rfl
theorem im_X8_bestAt : Cond.instanceMethod yX8_bestAt ∈ TB := TB_mem 920 (by decide +kernel) rfl
theorem kc_X8_bestAt : Cond.code yX8_bestAt cX8_bestAt 8 (some .int) ∈ TB := TB_mem 921 (by decide +kernel) rfl
theorem ml_L_96 : Cond.methodLink RL 96 yX8_share ∈ TB := TB_mem 922 (by decide +kernel) rfl
theorem im_X8_share : Cond.instanceMethod yX8_share ∈ TB := TB_mem 923 (by decide +kernel) rfl
theorem se_X8_share : Cond.selects RX8 yX8_share yX8_share ∈ TB := TB_mem 924 (by decide +kernel) rfl
theorem kc_X8_share : Cond.code yX8_share cX8_share 4 (some .int) ∈ TB := TB_mem 925 (by decide +kernel) rfl
theorem ml_L_100 : Cond.methodLink RL 100 yX8_likeliest ∈ TB := TB_mem 926 (by decide +kernel) rfl
theorem im_X8_likeliest : Cond.instanceMethod yX8_likeliest ∈ TB := TB_mem 927 (by decide +kernel) rfl
theorem se_X8_likeliest : Cond.selects RX8 yX8_likeliest yX8_likeliest ∈ TB := TB_mem 928 (by decide +kernel) rfl
theorem kc_X8_likeliest : Cond.code yX8_likeliest cX8_likeliest 3 (some .int) ∈ TB := TB_mem 929 (by decide +kernel) rfl
theorem ml_X8_194 : Cond.methodLink RX8 194 yX8_likeliestAt ∈ TB := TB_mem 930 (by decide +kernel) rfl
theorem im_X8_likeliestAt : Cond.instanceMethod yX8_likeliestAt ∈ TB := TB_mem 932 (by decide +kernel) rfl
theorem kc_X8_likeliestAt : Cond.code yX8_likeliestAt cX8_likeliestAt 4 (some .int) ∈ TB := TB_mem 933 (by decide +kernel) rfl
theorem ml_L_104 : Cond.methodLink RL 104 yX8_doubtful ∈ TB := TB_mem 934 (by decide +kernel) rfl
theorem im_X8_doubtful : Cond.instanceMethod yX8_doubtful ∈ TB := TB_mem 935 (by decide +kernel) rfl
theorem se_X8_doubtful : Cond.selects RX8 yX8_doubtful yX8_doubtful ∈ TB := TB_mem 936 (by decide +kernel) rfl
theorem kc_X8_doubtful : Cond.code yX8_doubtful cX8_doubtful 2 (some .int) ∈ TB := TB_mem 937 (by decide +kernel) rfl
theorem ml_X8_197 : Cond.methodLink RX8 197 yX8_doubts ∈ TB := TB_mem 938 (by decide +kernel) rfl
theorem im_X8_doubts : Cond.instanceMethod yX8_doubts ∈ TB := TB_mem 940 (by decide +kernel) rfl
theorem kc_X8_doubts : Cond.code yX8_doubts cX8_doubts 6 (some .int) ∈ TB := TB_mem 941 (by decide +kernel) rfl
theorem ml_L_108 : Cond.methodLink RL 108 yX8_run ∈ TB := TB_mem 942 (by decide +kernel) rfl
theorem im_X8_run : Cond.instanceMethod yX8_run ∈ TB := TB_mem 943 (by decide +kernel) rfl
theorem se_X8_run : Cond.selects RX8 yX8_run yX8_run ∈ TB := TB_mem 944 (by decide +kernel) rfl
theorem kc_X8_run : Cond.code yX8_run cX8_run 4 (some .int) ∈ TB := TB_mem 945 (by decide +kernel) rfl
theorem ml_X8_200 : Cond.methodLink RX8 200 yX8_runAt ∈ TB := TB_mem 946 (by decide +kernel) rfl
theorem im_X8_runAt : Cond.instanceMethod yX8_runAt ∈ TB := TB_mem 948 (by decide +kernel) rfl
theorem kc_X8_runAt : Cond.code yX8_runAt cX8_runAt 10 (some .int) ∈ TB := TB_mem 949 (by decide +kernel) rfl
theorem ml_L_112 : Cond.methodLink RL 112 yX8_next ∈ TB := TB_mem 950 (by decide +kernel) rfl
theorem im_X8_next : Cond.instanceMethod yX8_next ∈ TB := TB_mem 951 (by decide +kernel) rfl
theorem se_X8_next : Cond.selects RX8 yX8_next yX8_next ∈ TB := TB_mem 952 (by decide +kernel) rfl
theorem kc_X8_next : Cond.code yX8_next cX8_next 5 (some .int) ∈ TB := TB_mem 953 (by decide +kernel) rfl
theorem ml_X8_203 : Cond.methodLink RX8 203 yX8_weightOfNext ∈ TB := TB_mem 954 (by decide +kernel) rfl
theorem im_X8_weightOfNext : Cond.instanceMethod yX8_weightOfNext ∈ TB := TB_mem 956 (by decide +kernel) rfl
theorem kc_X8_weightOfNext : Cond.code yX8_weightOfNext cX8_weightOfNext 8 (some .long) ∈ TB := TB_mem 957 (by decide +kernel) rfl
theorem ml_L_116 : Cond.methodLink RL 116 yX8_count ∈ TB := TB_mem 958 (by decide +kernel) rfl
theorem im_X8_count : Cond.instanceMethod yX8_count ∈ TB := TB_mem 959 (by decide +kernel) rfl
theorem se_X8_count : Cond.selects RX8 yX8_count yX8_count ∈ TB := TB_mem 960 (by decide +kernel) rfl
theorem kc_X8_count : Cond.code yX8_count cX8_count 2 (some .int) ∈ TB := TB_mem 961 (by decide +kernel) rfl
theorem ml_X8_206 : Cond.methodLink RX8 206 yX8_signs ∈ TB := TB_mem 962 (by decide +kernel) rfl
theorem im_X8_signs : Cond.instanceMethod yX8_signs ∈ TB := TB_mem 964 (by decide +kernel) rfl
theorem kc_X8_signs : Cond.code yX8_signs cX8_signs 3 (some .int) ∈ TB := TB_mem 965 (by decide +kernel) rfl
theorem ml_X8_209 : Cond.methodLink RX8 209 yX8_overSamples ∈ TB := TB_mem 966 (by decide +kernel) rfl
theorem im_X8_overSamples : Cond.instanceMethod yX8_overSamples ∈ TB := TB_mem 968 (by decide +kernel) rfl
theorem kc_X8_overSamples : Cond.code yX8_overSamples cX8_overSamples 7 (some .int) ∈ TB := TB_mem 969 (by decide +kernel) rfl
theorem se_X1_dropOldest : Cond.selects RX1 yX1_dropOldest yX1_dropOldest ∈ TB := TB_mem 0 (by decide +kernel) rfl
theorem se_X3_addInto : Cond.selects RX3 yX3_addInto yX3_addInto ∈ TB := TB_mem 1 (by decide +kernel) rfl
theorem se_X6_aheadOf : Cond.selects RX6 yX6_aheadOf yX6_aheadOf ∈ TB := TB_mem 2 (by decide +kernel) rfl
theorem se_X6_behindOf : Cond.selects RX6 yX6_behindOf yX6_behindOf ∈ TB := TB_mem 3 (by decide +kernel) rfl
theorem se_X6_stepBehind : Cond.selects RX6 yX6_stepBehind yX6_stepBehind ∈ TB := TB_mem 4 (by decide +kernel) rfl
theorem se_X2_countSample : Cond.selects RX2 yX2_countSample yX2_countSample ∈ TB := TB_mem 5 (by decide +kernel) rfl
theorem se_X2_addCount : Cond.selects RX2 yX2_addCount yX2_addCount ∈ TB := TB_mem 6 (by decide +kernel) rfl
theorem se_X2_makeFamily : Cond.selects RX2 yX2_makeFamily yX2_makeFamily ∈ TB := TB_mem 7 (by decide +kernel) rfl
theorem se_X2_differs : Cond.selects RX2 yX2_differs yX2_differs ∈ TB := TB_mem 8 (by decide +kernel) rfl
theorem se_X4_partsBehind : Cond.selects RX4 yX4_partsBehind yX4_partsBehind ∈ TB := TB_mem 9 (by decide +kernel) rfl
theorem se_X4_entering : Cond.selects RX4 yX4_entering yX4_entering ∈ TB := TB_mem 10 (by decide +kernel) rfl
theorem se_X0_nextOf : Cond.selects RX0 yX0_nextOf yX0_nextOf ∈ TB := TB_mem 11 (by decide +kernel) rfl
theorem se_X0_going : Cond.selects RX0 yX0_going yX0_going ∈ TB := TB_mem 12 (by decide +kernel) rfl
theorem se_X0_firstOf : Cond.selects RX0 yX0_firstOf yX0_firstOf ∈ TB := TB_mem 13 (by decide +kernel) rfl
theorem se_X0_beginning : Cond.selects RX0 yX0_beginning yX0_beginning ∈ TB := TB_mem 14 (by decide +kernel) rfl
theorem se_X7_allDoubtful : Cond.selects RX7 yX7_allDoubtful yX7_allDoubtful ∈ TB := TB_mem 15 (by decide +kernel) rfl
theorem se_X7_samplesWithoutTotal : Cond.selects RX7 yX7_samplesWithoutTotal yX7_samplesWithoutTotal ∈ TB := TB_mem 16 (by decide +kernel) rfl
theorem se_X7_placesOffBest : Cond.selects RX7 yX7_placesOffBest yX7_placesOffBest ∈ TB := TB_mem 17 (by decide +kernel) rfl
theorem se_X7_placesOffPath : Cond.selects RX7 yX7_placesOffPath yX7_placesOffPath ∈ TB := TB_mem 18 (by decide +kernel) rfl
theorem se_X8_fills : Cond.selects RX8 yX8_fills yX8_fills ∈ TB := TB_mem 19 (by decide +kernel) rfl
theorem se_X8_placeOf : Cond.selects RX8 yX8_placeOf yX8_placeOf ∈ TB := TB_mem 20 (by decide +kernel) rfl
theorem se_X8_isState : Cond.selects RX8 yX8_isState yX8_isState ∈ TB := TB_mem 21 (by decide +kernel) rfl
theorem se_X8_records : Cond.selects RX8 yX8_records yX8_records ∈ TB := TB_mem 22 (by decide +kernel) rfl
theorem se_X8_go : Cond.selects RX8 yX8_go yX8_go ∈ TB := TB_mem 23 (by decide +kernel) rfl
theorem se_X8_show : Cond.selects RX8 yX8_show yX8_show ∈ TB := TB_mem 24 (by decide +kernel) rfl
theorem se_X8_drops : Cond.selects RX8 yX8_drops yX8_drops ∈ TB := TB_mem 25 (by decide +kernel) rfl
theorem se_X8_clears : Cond.selects RX8 yX8_clears yX8_clears ∈ TB := TB_mem 26 (by decide +kernel) rfl
theorem se_X8_reads : Cond.selects RX8 yX8_reads yX8_reads ∈ TB := TB_mem 27 (by decide +kernel) rfl
theorem se_X8_readsSample : Cond.selects RX8 yX8_readsSample yX8_readsSample ∈ TB := TB_mem 28 (by decide +kernel) rfl
theorem se_X8_letter : Cond.selects RX8 yX8_letter yX8_letter ∈ TB := TB_mem 29 (by decide +kernel) rfl
theorem se_X8_isSample : Cond.selects RX8 yX8_isSample yX8_isSample ∈ TB := TB_mem 30 (by decide +kernel) rfl
theorem se_X8_learnsOnce : Cond.selects RX8 yX8_learnsOnce yX8_learnsOnce ∈ TB := TB_mem 31 (by decide +kernel) rfl
theorem se_X8_laysRuns : Cond.selects RX8 yX8_laysRuns yX8_laysRuns ∈ TB := TB_mem 32 (by decide +kernel) rfl
theorem se_X8_placesOf : Cond.selects RX8 yX8_placesOf yX8_placesOf ∈ TB := TB_mem 33 (by decide +kernel) rfl
theorem se_X8_signAt : Cond.selects RX8 yX8_signAt yX8_signAt ∈ TB := TB_mem 34 (by decide +kernel) rfl
theorem se_X8_laysBehind : Cond.selects RX8 yX8_laysBehind yX8_laysBehind ∈ TB := TB_mem 35 (by decide +kernel) rfl
theorem se_X8_step : Cond.selects RX8 yX8_step yX8_step ∈ TB := TB_mem 36 (by decide +kernel) rfl
theorem se_X8_total : Cond.selects RX8 yX8_total yX8_total ∈ TB := TB_mem 37 (by decide +kernel) rfl
theorem se_X8_weightAt : Cond.selects RX8 yX8_weightAt yX8_weightAt ∈ TB := TB_mem 38 (by decide +kernel) rfl
theorem se_X8_counts : Cond.selects RX8 yX8_counts yX8_counts ∈ TB := TB_mem 39 (by decide +kernel) rfl
theorem se_X8_learnsFamily : Cond.selects RX8 yX8_learnsFamily yX8_learnsFamily ∈ TB := TB_mem 40 (by decide +kernel) rfl
theorem se_X8_swapsAside : Cond.selects RX8 yX8_swapsAside yX8_swapsAside ∈ TB := TB_mem 41 (by decide +kernel) rfl
theorem se_X8_oddsOf : Cond.selects RX8 yX8_oddsOf yX8_oddsOf ∈ TB := TB_mem 42 (by decide +kernel) rfl
theorem se_X8_laysOdds : Cond.selects RX8 yX8_laysOdds yX8_laysOdds ∈ TB := TB_mem 43 (by decide +kernel) rfl
theorem se_X8_isPlace : Cond.selects RX8 yX8_isPlace yX8_isPlace ∈ TB := TB_mem 44 (by decide +kernel) rfl
theorem se_X8_runsThatCount : Cond.selects RX8 yX8_runsThatCount yX8_runsThatCount ∈ TB := TB_mem 45 (by decide +kernel) rfl
theorem se_X8_bestWeight : Cond.selects RX8 yX8_bestWeight yX8_bestWeight ∈ TB := TB_mem 46 (by decide +kernel) rfl
theorem se_X8_bestAt : Cond.selects RX8 yX8_bestAt yX8_bestAt ∈ TB := TB_mem 47 (by decide +kernel) rfl
theorem se_X8_likeliestAt : Cond.selects RX8 yX8_likeliestAt yX8_likeliestAt ∈ TB := TB_mem 48 (by decide +kernel) rfl
theorem se_X8_doubts : Cond.selects RX8 yX8_doubts yX8_doubts ∈ TB := TB_mem 49 (by decide +kernel) rfl
theorem se_X8_runAt : Cond.selects RX8 yX8_runAt yX8_runAt ∈ TB := TB_mem 50 (by decide +kernel) rfl
theorem se_X8_weightOfNext : Cond.selects RX8 yX8_weightOfNext yX8_weightOfNext ∈ TB := TB_mem 51 (by decide +kernel) rfl
theorem se_X8_signs : Cond.selects RX8 yX8_signs yX8_signs ∈ TB := TB_mem 52 (by decide +kernel) rfl
theorem se_X8_overSamples : Cond.selects RX8 yX8_overSamples yX8_overSamples ∈ TB := TB_mem 53 (by decide +kernel) rfl
theorem wi_X0 : ∀ w ∈ u_ws RX0 TX0 4, w ∈ TB := fun w h => List.mem_filter.mpr ⟨(show ∀ w ∈ u_ws RX0 TX0 4, w ∈ lw_tbl by decide +kernel) w h, List.all_eq_true.mp (show (u_ws RX0 TX0 4).all goodWord = true by decide +kernel) w h⟩
theorem wi_X1 : ∀ w ∈ u_ws RX1 TX1 2, w ∈ TB := fun w h => List.mem_filter.mpr ⟨(show ∀ w ∈ u_ws RX1 TX1 2, w ∈ lw_tbl by decide +kernel) w h, List.all_eq_true.mp (show (u_ws RX1 TX1 2).all goodWord = true by decide +kernel) w h⟩
theorem wi_X2 : ∀ w ∈ u_ws RX2 TX2 4, w ∈ TB := fun w h => List.mem_filter.mpr ⟨(show ∀ w ∈ u_ws RX2 TX2 4, w ∈ lw_tbl by decide +kernel) w h, List.all_eq_true.mp (show (u_ws RX2 TX2 4).all goodWord = true by decide +kernel) w h⟩
theorem wi_X3 : ∀ w ∈ u_ws RX3 TX3 6, w ∈ TB := fun w h => List.mem_filter.mpr ⟨(show ∀ w ∈ u_ws RX3 TX3 6, w ∈ lw_tbl by decide +kernel) w h, List.all_eq_true.mp (show (u_ws RX3 TX3 6).all goodWord = true by decide +kernel) w h⟩
theorem wi_X4 : ∀ w ∈ u_ws RX4 TX4 3, w ∈ TB := fun w h => List.mem_filter.mpr ⟨(show ∀ w ∈ u_ws RX4 TX4 3, w ∈ lw_tbl by decide +kernel) w h, List.all_eq_true.mp (show (u_ws RX4 TX4 3).all goodWord = true by decide +kernel) w h⟩
theorem wi_X5 : ∀ w ∈ u_ws RX5 TX5 2, w ∈ TB := fun w h => List.mem_filter.mpr ⟨(show ∀ w ∈ u_ws RX5 TX5 2, w ∈ lw_tbl by decide +kernel) w h, List.all_eq_true.mp (show (u_ws RX5 TX5 2).all goodWord = true by decide +kernel) w h⟩
theorem wi_X6 : ∀ w ∈ u_ws RX6 TX6 6, w ∈ TB := fun w h => List.mem_filter.mpr ⟨(show ∀ w ∈ u_ws RX6 TX6 6, w ∈ lw_tbl by decide +kernel) w h, List.all_eq_true.mp (show (u_ws RX6 TX6 6).all goodWord = true by decide +kernel) w h⟩
theorem wi_X7 : ∀ w ∈ u_ws RX7 TX7 9, w ∈ TB := fun w h => List.mem_filter.mpr ⟨(show ∀ w ∈ u_ws RX7 TX7 9, w ∈ lw_tbl by decide +kernel) w h, List.all_eq_true.mp (show (u_ws RX7 TX7 9).all goodWord = true by decide +kernel) w h⟩
theorem wi_X8 : ∀ w ∈ u_ws RX8 TX8 20, w ∈ TB := fun w h => List.mem_filter.mpr ⟨(show ∀ w ∈ u_ws RX8 TX8 20, w ∈ lw_tbl by decide +kernel) w h, List.all_eq_true.mp (show (u_ws RX8 TX8 20).all goodWord = true by decide +kernel) w h⟩
end
section
/-! THE LAYER V: the whole world as three functions (ints, longs, the row of references) over pointers 0..53; a row an instruction. -/
abbrev Iv : Type := Nat → Nat → Int32
abbrev Lv : Type := Nat → Nat → Int64
abbrev Pv : Type := Nat → Nat
/-- what stands at a pointer: (0, class), (1, n) ints, (2, n) chars, (3, n) longs, (4, n) references -/
def hs (i : Nat) : Nat × Nat := match i with
  | 0 => (0, 7)
  | 1 => (0, 3)
  | 2 => (1, 32)
  | 3 => (1, 6)
  | 4 => (1, 42)
  | 5 => (0, 3)
  | 6 => (1, 32)
  | 7 => (1, 6)
  | 8 => (1, 42)
  | 9 => (0, 1)
  | 10 => (4, 4)
  | 11 => (0, 3)
  | 12 => (1, 32)
  | 13 => (1, 6)
  | 14 => (1, 42)
  | 15 => (0, 3)
  | 16 => (1, 32)
  | 17 => (1, 6)
  | 18 => (1, 42)
  | 19 => (0, 3)
  | 20 => (1, 32)
  | 21 => (1, 6)
  | 22 => (1, 42)
  | 23 => (0, 3)
  | 24 => (1, 32)
  | 25 => (1, 6)
  | 26 => (1, 42)
  | 27 => (0, 5)
  | 28 => (2, 60)
  | 29 => (0, 6)
  | 30 => (3, 28)
  | 31 => (3, 28)
  | 32 => (0, 0)
  | 33 => (3, 28)
  | 34 => (1, 7)
  | 35 => (0, 4)
  | 36 => (1, 28)
  | 37 => (0, 2)
  | 38 => (1, 32)
  | 39 => (1, 32)
  | 40 => (0, 8)
  | 41 => (1, 83)
  | 42 => (1, 83)
  | 43 => (1, 332)
  | 44 => (1, 83)
  | 45 => (1, 60)
  | 46 => (3, 28)
  | 47 => (3, 28)
  | 48 => (3, 28)
  | 49 => (3, 28)
  | 50 => (3, 32)
  | 51 => (1, 4)
  | 52 => (1, 4)
  | 53 => (1, 256)
  | _ => (9, 0)
def nf (ci : Nat) : Nat := match ci with
  | 0 => 4 | 1 => 2 | 2 => 4 | 3 => 6 | 4 => 3 | 5 => 2 | 6 => 6 | 7 => 9 | 8 => 20 | _ => 0
/-- fields: 0 int, 1 long, 2 reference, 3 boolean -/
def ftk (ci k : Nat) : Nat := match ci with
  | 0 => (match k with | 0 => 2 | 1 => 2 | 2 => 2 | 3 => 1 | _ => 9)
  | 1 => (match k with | 0 => 2 | 1 => 0 | _ => 9)
  | 2 => (match k with | 0 => 2 | 1 => 2 | 2 => 2 | 3 => 2 | _ => 9)
  | 3 => (match k with | 0 => 2 | 1 => 0 | 2 => 0 | 3 => 2 | 4 => 2 | 5 => 0 | _ => 9)
  | 4 => (match k with | 0 => 2 | 1 => 2 | 2 => 0 | _ => 9)
  | 5 => (match k with | 0 => 2 | 1 => 0 | _ => 9)
  | 6 => (match k with | 0 => 2 | 1 => 0 | 2 => 0 | 3 => 2 | 4 => 2 | 5 => 1 | _ => 9)
  | 7 => (match k with | 0 => 2 | 1 => 2 | 2 => 3 | 3 => 2 | 4 => 2 | 5 => 2 | 6 => 2 | 7 => 2 | 8 => 2 | _ => 9)
  | 8 => (match k with | 0 => 0 | 1 => 2 | 2 => 2 | 3 => 2 | 4 => 0 | 5 => 2 | 6 => 3 | 7 => 2 | 8 => 0 | 9 => 2 | 10 => 2 | 11 => 2 | 12 => 2 | 13 => 2 | 14 => 2 | 15 => 2 | 16 => 0 | 17 => 3 | 18 => 2 | 19 => 0 | _ => 9)
  | _ => 9
/-- where the fields that are references lead -/
def rf (i k : Nat) : Nat := match i with
  | 0 => (match k with | 0 => 1 | 1 => 5 | 3 => 9 | 4 => 27 | 5 => 29 | 6 => 32 | 7 => 35 | 8 => 37 | _ => 0)
  | 1 => (match k with | 0 => 2 | 3 => 3 | 4 => 4 | _ => 0)
  | 5 => (match k with | 0 => 6 | 3 => 7 | 4 => 8 | _ => 0)
  | 9 => (match k with | 0 => 10 | _ => 0)
  | 11 => (match k with | 0 => 12 | 3 => 13 | 4 => 14 | _ => 0)
  | 15 => (match k with | 0 => 16 | 3 => 17 | 4 => 18 | _ => 0)
  | 19 => (match k with | 0 => 20 | 3 => 21 | 4 => 22 | _ => 0)
  | 23 => (match k with | 0 => 24 | 3 => 25 | 4 => 26 | _ => 0)
  | 27 => (match k with | 0 => 28 | _ => 0)
  | 29 => (match k with | 0 => 1 | 3 => 30 | 4 => 31 | _ => 0)
  | 32 => (match k with | 0 => 1 | 1 => 33 | 2 => 34 | _ => 0)
  | 35 => (match k with | 0 => 1 | 1 => 36 | _ => 0)
  | 37 => (match k with | 0 => 1 | 1 => 29 | 2 => 38 | 3 => 39 | _ => 0)
  | 40 => (match k with | 1 => 41 | 2 => 42 | 3 => 43 | 5 => 44 | 7 => 45 | 9 => 46 | 10 => 47 | 11 => 48 | 12 => 49 | 13 => 50 | 14 => 51 | 15 => 52 | 18 => 53 | _ => 0)
  | _ => 0
/-- launch, class numbers, addresses, the classes of the four kinds of rows -/
abbrev Cx : Type := Launch × va_G × (Nat → Nat) × ClassId × ClassId × ClassId × ClassId
abbrev x_l (x : Cx) : Launch := x.1
abbrev x_D (x : Cx) : va_G := x.2.1
abbrev x_ad (x : Cx) : Nat → Nat := x.2.2.1
abbrev x_I (x : Cx) : ClassId := x.2.2.2.1
abbrev x_C (x : Cx) : ClassId := x.2.2.2.2.1
abbrev x_J (x : Cx) : ClassId := x.2.2.2.2.2.1
abbrev x_R (x : Cx) : ClassId := x.2.2.2.2.2.2
def rfv (x : Cx) (i : Nat) : Value := .ref (x_ad x i)
def fvl (x : Cx) (ci i : Nat) (I : Iv) (L : Lv) (k : Nat) : Value := match ftk ci k with
  | 1 => .long (L i k)
  | 2 => .ref (x_ad x (rf i k))
  | _ => .int (I i k)
def cE (x : Cx) (I : Iv) (L : Lv) (P : Pv) (i : Nat) : va_E := match hs i with
  | (0, ci) => .inr (ci, (List.range (nf ci)).map (fvl x ci i I L))
  | (1, n) => .inl (x_I x, n, .inl (I i))
  | (2, n) => .inl (x_C x, n, .inl (I i))
  | (3, n) => .inl (x_J x, n, .inr (.inl (L i)))
  | (_, n) => .inl (x_R x, n, .inr (.inr (.inr (.inr (fun j => some (x_ad x (P j)))))))
def wl (x : Cx) (E : Nat → va_E) : va_W := (List.range 54).map (fun i => (x_ad x i, E i))
theorem wl_get {x : Cx} {E : Nat → va_E} {i : Nat} (h : i < 54) : (wl x E)[i]? = some (x_ad x i, E i) := by
  simp [wl, h]
theorem wl_set {x : Cx} {E E' : Nat → va_E} {i : Nat} {e : va_E} (h : i < 54) (h1 : E' i = e) (h2 : ∀ j, j ≠ i → E' j = E j) : (wl x E).set i (x_ad x i, e) = wl x E' := by
  apply List.ext_getElem?
  intro k
  rw [List.getElem?_set]
  by_cases hk : i = k
  · subst hk
    have hl : i < (wl x E).length := by simp [wl, h]
    rw [if_pos rfl, if_pos hl, wl_get h, h1]
  · rw [if_neg hk]
    by_cases hk2 : k < 54
    · rw [wl_get hk2, wl_get hk2, h2 k (fun q => hk q.symm)]
    · have e1 : (wl x E)[k]? = none := by simp [wl]; omega
      have e2 : (wl x E')[k]? = none := by simp [wl]; omega
      rw [e1, e2]
def AA (x : Cx) : Nat → Prop := fun q => ∃ i, i < 54 ∧ q = x_ad x i
def Inj (x : Cx) : Prop := ∀ i j, i < 54 → j < 54 → x_ad x i = x_ad x j → i = j
theorem wl_at {x : Cx} {E : Nat → va_E} {k : Nat} {q : Nat × va_E} (h : (wl x E)[k]? = some q) : k < 54 ∧ q = (x_ad x k, E k) := by
  by_cases hk : k < 54
  · rw [wl_get hk] at h
    exact ⟨hk, (Option.some.inj h).symm⟩
  · have e1 : (wl x E)[k]? = none := by simp [wl]; omega
    rw [e1] at h
    cases h
theorem wl_D {x : Cx} (E : Nat → va_E) (h : Inj x) : va_D (AA x) (wl x E) := by
  refine ⟨fun i j p q hp hq e => ?_, fun k q hq => ?_⟩
  · obtain ⟨h1, rfl⟩ := wl_at hp
    obtain ⟨h2, rfl⟩ := wl_at hq
    exact h i j h1 h2 e
  · obtain ⟨h1, rfl⟩ := wl_at hq
    exact ⟨k, h1, rfl⟩
def tyl (x : Cx) : List (ClassId × FieldType) := [(x_I x, .int), (x_C x, .char), (x_J x, .long), (x_R x, .object "HiddenRuns$Model")]
def KX (x : Cx) (U : State) : Prop := va_K (x_D x) vwCl (tyl x) U ∧ (∀ w ∈ nestW, va_Nw w U) ∧ Inj x
theorem KX.warm {x : Cx} {s U : State} (hW : s.WarmedH U.vm) (h : KX x s) : KX x U := by
  refine ⟨va_K.moved hW.alike h.1, fun w hw => ?_, h.2.2⟩
  have h1 := h.2.1 w hw
  have h2 : isNest w = true := NW_is w hw
  cases w <;> first
    | exact va_Nw.warmF hW h1
    | exact va_Nw.warmM hW h1
    | (simp [isNest] at h2; done)
theorem KX.calling {x : Cx} {U : State} {g : JFrame} {mk : MethodId} {a : Array Value} (h : KX x U) : KX x (U.calling g mk a) := by
  refine ⟨va_K.moved (u := U) (U := U.calling g mk a) (Vm.Alike.refl U.vm) h.1, fun w hw => ?_, h.2.2⟩
  have h1 := h.2.1 w hw
  have h2 : isNest w = true := NW_is w hw
  cases w <;> first
    | exact va_Nw.same rfl (u := U) rfl h1
    | (simp [isNest] at h2; done)
/-- a method: name, bytes, locals, answer, room in frames and in locals -/
abbrev MI : Type := MethodName × ByteArray × Nat × Option FieldType × Nat × Nat
abbrev mY (M : MI) : MethodName := M.1
abbrev mB (M : MI) : ByteArray := M.2.1
abbrev mL (M : MI) : Nat := M.2.2.1
abbrev mR (M : MI) : Option FieldType := M.2.2.2.1
abbrev mF (M : MI) : Nat := M.2.2.2.2.1
abbrev mO (M : MI) : Nat := M.2.2.2.2.2
def wsM (M : MI) : List Cond := Cond.code (mY M) (mB M) (mL M) (mR M) :: TB
def rmM (M : MI) : Room := { frames := mF M, cells := 0, slots := 0, locals := mO M }
theorem wsM_good (M : MI) (h : Cond.code (mY M) (mB M) (mL M) (mR M) ∈ TB) {big : List Cond} (hb : ∀ w ∈ TB, w ∈ big) : GoodIn big (wsM M) := by
  intro w hw
  rcases List.mem_cons.mp hw with rfl | hw
  · exact ⟨hb _ h, good_of_word (TB_good _ h)⟩
  · exact ⟨hb _ hw, good_of_word (TB_good _ hw)⟩
abbrev Qt : Type := Option Value → Iv → Lv → Pv → Prop
abbrev HP (x : Cx) (I : Iv) (L : Lv) (P : Pv) (H : Heap) : Prop := va_P (x_D x) vwCl (wl x (cE x I L P)) H
def QcO (x : Cx) (Q : Qt) : Array Value → State → Outcome → State → Prop := fun _ st oc t => (∃ v I L P, oc = .returned v ∧ Q v I L P ∧ HP x I L P t.heap) ∧ va_F (AA x) st t
def PcO (x : Cx) (args : List Value) (I : Iv) (L : Lv) (P : Pv) : Array Value → State → Prop := va_Pc args (fun U => HP x I L P U.heap ∧ KX x U)
/-- the contract of a method at one state: it ends, and Q holds of its answer and of the state then -/
def SP (x : Cx) (M : MI) (args : List Value) (I : Iv) (L : Lv) (P : Pv) (Q : Qt) : Prop := Met (x_l x) (mY M) (wsM M) (rmM M) (PcO x args I L P) (QcO x Q) 0 0 (AA x)
theorem PcO_blind (x : Cx) (args : List Value) (I : Iv) (L : Lv) (P : Pv) : FrameBlind (PcO x args I L P) := fun a U g mk q => by
  obtain ⟨q0, q1, q2⟩ := q
  exact ⟨q0, q1, q2.calling⟩
def CT (M : MI) (p : Program) (s : State) (m : MethodId) (args : Array Value) (meth : Method) (c : Code) : Prop :=
  p.tables.exec = Jvm.exec ∧ c.code = mB M ∧ meth.sig.returnType = mR M ∧ c.maxLocals = mL M ∧ s.vm.findClass (mY M).cls = some m.cls ∧ (∀ w ∈ wsM M, w.before args s = true) ∧ meth.locks = false
/-- the locals by their places: a long stands before none -/
def lvA : Nat → List (Option Value) → List (Nat × Value)
  | _, [] => []
  | j, none :: r => lvA (j + 1) r
  | j, some v :: r => (j, v) :: lvA (j + 1) r
theorem lvA_mem : ∀ (ls : List (Option Value)) (j : Nat) (q : Nat × Value), q ∈ lvA j ls ↔ j ≤ q.1 ∧ ls[q.1 - j]? = some (some q.2)
  | [], j, q => by simp [lvA]
  | none :: r, j, q => by
    rw [lvA, lvA_mem r (j + 1) q]
    constructor
    · rintro ⟨h1, h2⟩
      refine ⟨by omega, ?_⟩
      rw [show q.1 - j = (q.1 - (j + 1)) + 1 by omega]
      exact h2
    · rintro ⟨h1, h2⟩
      by_cases e : q.1 = j
      · rw [e, Nat.sub_self] at h2
        simp at h2
      · refine ⟨by omega, ?_⟩
        rw [show q.1 - j = (q.1 - (j + 1)) + 1 by omega] at h2
        exact h2
  | some v :: r, j, q => by
    rw [lvA, List.mem_cons, lvA_mem r (j + 1) q]
    constructor
    · rintro (rfl | ⟨h1, h2⟩)
      · simp
      · refine ⟨by omega, ?_⟩
        rw [show q.1 - j = (q.1 - (j + 1)) + 1 by omega]
        exact h2
    · rintro ⟨h1, h2⟩
      by_cases e : q.1 = j
      · left
        rw [e, Nat.sub_self] at h2
        simp at h2
        obtain ⟨a, b⟩ := q
        simp_all
      · right
        refine ⟨by omega, ?_⟩
        rw [show q.1 - j = (q.1 - (j + 1)) + 1 by omega] at h2
        exact h2
theorem lvA_get {lsA : Array Slot} {nL : Nat} {ls : List (Option Value)} (h : lv_has lsA nL (lvA 0 ls)) {i : Nat} {v : Value} (hi : ls[i]? = some (some v)) : lsA[i]? = some (.val v) :=
  h.2.2 (i, v) ((lvA_mem ls 0 (i, v)).mpr ⟨Nat.zero_le _, hi⟩)
def isL (w : Option Value) : Bool := match w with
  | some (.long _) => true
  | some (.double _) => true
  | _ => false
def stA (i : Nat) (v : Value) : Nat → List (Option Value) → List (Option Value)
  | _, [] => []
  | j, w :: r => (if j = i then some v else if j + 1 = i ∧ isL w = true then none else w) :: stA i v (j + 1) r
def stB (i : Nat) (v : Value) : Nat → List (Option Value) → List (Option Value)
  | _, [] => []
  | j, w :: r => (if j = i then some v else if j = i + 1 then none else if j + 1 = i ∧ isL w = true then none else w) :: stB i v (j + 1) r
theorem stA_get (i : Nat) (v : Value) : ∀ (ls : List (Option Value)) (j k : Nat), (stA i v j ls)[k]? = (ls[k]?).map (fun w => if j + k = i then some v else if j + k + 1 = i ∧ isL w = true then none else w)
  | [], j, k => by simp [stA]
  | w :: r, j, 0 => by simp [stA]
  | w :: r, j, k + 1 => by
    rw [stA, List.getElem?_cons_succ, stA_get i v r (j + 1) k, List.getElem?_cons_succ, show j + 1 + k = j + (k + 1) by omega]
theorem stB_get (i : Nat) (v : Value) : ∀ (ls : List (Option Value)) (j k : Nat), (stB i v j ls)[k]? = (ls[k]?).map (fun w => if j + k = i then some v else if j + k = i + 1 then none else if j + k + 1 = i ∧ isL w = true then none else w)
  | [], j, k => by simp [stB]
  | w :: r, j, 0 => by simp [stB]
  | w :: r, j, k + 1 => by
    rw [stB, List.getElem?_cons_succ, stB_get i v r (j + 1) k, List.getElem?_cons_succ, show j + 1 + k = j + (k + 1) by omega]
theorem cat2_isL {v : Value} (h : ¬ isL (some v) = true) : ¬ v.category = 2 := by
  cases v <;> simp_all [isL, Value.category]
theorem lvA_stA {lsA : Array Slot} {nL : Nat} {ls : List (Option Value)} {i : Nat} {v : Value} (h : lv_has lsA nL ((i, v) :: (lvA 0 ls).filter (fun q => !(q.1 == i) && !(q.1 + 1 == i && q.2.category == 2)))) : lv_has lsA nL (lvA 0 (stA i v 0 ls)) := by
  refine ⟨h.1, h.2.1, fun q hq => h.2.2 q ?_⟩
  obtain ⟨k, u⟩ := q
  rw [lvA_mem, stA_get] at hq
  obtain ⟨-, hq⟩ := hq
  simp only [Nat.sub_zero, Nat.zero_add] at hq
  cases hg : ls[k]? with
  | none => rw [hg] at hq; cases hq
  | some w =>
    rw [hg, Option.map_some] at hq
    by_cases e : k = i
    · subst e
      simp at hq
      subst hq
      exact List.mem_cons_self
    · rw [if_neg e] at hq
      by_cases e2 : k + 1 = i ∧ isL w = true
      · rw [if_pos e2] at hq
        cases hq
      · rw [if_neg e2] at hq
        have hw : w = some u := Option.some.inj hq
        subst hw
        refine List.mem_cons_of_mem _ (List.mem_filter.mpr ⟨(lvA_mem ls 0 (k, u)).mpr ⟨Nat.zero_le _, hg⟩, ?_⟩)
        by_cases e3 : k + 1 = i
        · have : ¬ u.category = 2 := cat2_isL (fun q => e2 ⟨e3, q⟩)
          simp [e, this]
        · simp [e, e3]
theorem lvA_stB {lsA : Array Slot} {nL : Nat} {ls : List (Option Value)} {i : Nat} {v : Value} (h : lv_has lsA nL ((i, v) :: (lvA 0 ls).filter (fun q => !(q.1 == i) && (!(q.1 == i + 1) && !(q.1 + 1 == i && q.2.category == 2))))) : lv_has lsA nL (lvA 0 (stB i v 0 ls)) := by
  refine ⟨h.1, h.2.1, fun q hq => h.2.2 q ?_⟩
  obtain ⟨k, u⟩ := q
  rw [lvA_mem, stB_get] at hq
  obtain ⟨-, hq⟩ := hq
  simp only [Nat.sub_zero, Nat.zero_add] at hq
  cases hg : ls[k]? with
  | none => rw [hg] at hq; cases hq
  | some w =>
    rw [hg, Option.map_some] at hq
    by_cases e : k = i
    · subst e
      simp at hq
      subst hq
      exact List.mem_cons_self
    · rw [if_neg e] at hq
      by_cases e1 : k = i + 1
      · rw [if_pos e1] at hq
        cases hq
      · rw [if_neg e1] at hq
        by_cases e2 : k + 1 = i ∧ isL w = true
        · rw [if_pos e2] at hq
          cases hq
        · rw [if_neg e2] at hq
          have hw : w = some u := Option.some.inj hq
          subst hw
          refine List.mem_cons_of_mem _ (List.mem_filter.mpr ⟨(lvA_mem ls 0 (k, u)).mpr ⟨Nat.zero_le _, hg⟩, ?_⟩)
          by_cases e3 : k + 1 = i
          · have : ¬ u.category = 2 := cat2_isL (fun q => e2 ⟨e3, q⟩)
            simp [e, e1, this]
          · simp [e, e1, e3]
/-- from here the method comes to its end with Q -/
def V (x : Cx) (M : MI) (Q : Qt) (pc : Nat) (ls : List (Option Value)) (st : List Value) (I : Iv) (L : Lv) (P : Pv) : Prop :=
  ∀ (p : Program) (e : Env) (s : State) (m : MethodId) (args : Array Value) (below : List Frame) (meth : Method) (c : Code), CT M p s m args meth c → KX x s → ∀ (H : Heap) (locs : List Loc) (lsA : Array Slot), HP x I L P H → va_S (AA x) s.heap H locs → lv_has lsA (mL M) (lvA 0 ls) →
    W p (x_l x) e (headSpec (wsM M) (rmM M)).room s m args below meth c H locs 0 0 (MQ below (QcO x Q) args s 0 0 (AA x)) (F0 m pc lsA st)
theorem SP.intro {x : Cx} {M : MI} {args : List Value} {I : Iv} {L : Lv} {P : Pv} {Q : Qt} (ls : List (Option Value)) (hpl : plainName (mY M).cls = true) (hlen : (lg_sl args).length ≤ mL M) (hls : lvA 0 ls = lv_args 0 args) (h : V x M Q 0 ls [] I L P) : SP x M args I L P Q := by
  refine Met.ofW (cc := mB M) (maxL := mL M) (ret := mR M) (ws' := TB) hpl rfl ?_
  intro p e s m args' below meth c s₁ B hml hv
  obtain ⟨rfl, hP, hK⟩ := hv
  have hl := lv_entry args (n := mL M) hlen
  rw [lg_entry_eq]
  refine h p e s m _ below meth c ⟨B.exec, B.bytes, B.returns, hml, findClass_of_methodNamed B.named, atoms_spec (ws := wsM M) B.pre, B.notSynchronized⟩ hK s.heap [] _ hP va_S.rf ?_
  rw [hls]
  exact hl
section ROWS
variable {x : Cx} {M : MI} {Q : Qt} {pc : Nat} {ls : List (Option Value)} {st : List Value} {I : Iv} {L : Lv} {P : Pv}

theorem v_iconst (q : Nat) {n : Int} (v : Int32) (hv : Int32.ofInt n = v) (d : decode (mB M) pc = .ok (.iconst n, 1)) (hq : pc + 1 = q) (kk : V x M Q q ls (.int v :: st) I L P) : V x M Q pc ls (st) I L P := by
  subst hq
  intro p e s m args below meth c hc hk H locs lsA hP hS hl
  exact lv_iconst hc.1 hc.2.1 d hv (kk p e s m args below meth c hc hk H locs lsA hP hS hl)
theorem v_bipush (q : Nat) {n : Int} (v : Int32) (hv : (Int8.ofInt n).toInt32 = v) (d : decode (mB M) pc = .ok (.bipush n, 2)) (hq : pc + 2 = q) (kk : V x M Q q ls (.int v :: st) I L P) : V x M Q pc ls (st) I L P := by
  subst hq
  intro p e s m args below meth c hc hk H locs lsA hP hS hl
  exact lv_bipush hc.1 hc.2.1 d hv (kk p e s m args below meth c hc hk H locs lsA hP hS hl)
theorem v_sipush (q : Nat) {n : Int} (v : Int32) (hv : (Int16.ofInt n).toInt32 = v) (d : decode (mB M) pc = .ok (.sipush n, 3)) (hq : pc + 3 = q) (kk : V x M Q q ls (.int v :: st) I L P) : V x M Q pc ls (st) I L P := by
  subst hq
  intro p e s m args below meth c hc hk H locs lsA hP hS hl
  exact lv_sipush hc.1 hc.2.1 d hv (kk p e s m args below meth c hc hk H locs lsA hP hS hl)
theorem v_lconst (q : Nat) {n : Fin 2} (v : Int64) (hv : Int64.ofNat (n : Nat) = v) (d : decode (mB M) pc = .ok (.lconst n, 1)) (hq : pc + 1 = q) (kk : V x M Q q ls (.long v :: st) I L P) : V x M Q pc ls (st) I L P := by
  subst hq
  intro p e s m args below meth c hc hk H locs lsA hP hS hl
  exact lv_lconst hc.1 hc.2.1 d hv (kk p e s m args below meth c hc hk H locs lsA hP hS hl)
theorem v_iload_n (q : Nat) {k : Fin 4} {v : Int32} (hl0 : ls[(k : Nat)]? = some (some (.int v))) (d : decode (mB M) pc = .ok (.iload_n k, 1)) (hq : pc + 1 = q) (kk : V x M Q q ls (.int v :: st) I L P) : V x M Q pc ls (st) I L P := by
  subst hq
  intro p e s m args below meth c hc hk H locs lsA hP hS hl
  exact lv_iload_n hc.1 hc.2.1 d rfl (lvA_get hl hl0) (kk p e s m args below meth c hc hk H locs lsA hP hS hl)
theorem v_iload (q : Nat) {k : Nat} {v : Int32} (hl0 : ls[k]? = some (some (.int v))) (d : decode (mB M) pc = .ok (.iload k, 2)) (hq : pc + 2 = q) (kk : V x M Q q ls (.int v :: st) I L P) : V x M Q pc ls (st) I L P := by
  subst hq
  intro p e s m args below meth c hc hk H locs lsA hP hS hl
  exact lv_iload hc.1 hc.2.1 d (lvA_get hl hl0) (kk p e s m args below meth c hc hk H locs lsA hP hS hl)
theorem v_lload_n (q : Nat) {k : Fin 4} {v : Int64} (hl0 : ls[(k : Nat)]? = some (some (.long v))) (d : decode (mB M) pc = .ok (.lload_n k, 1)) (hq : pc + 1 = q) (kk : V x M Q q ls (.long v :: st) I L P) : V x M Q pc ls (st) I L P := by
  subst hq
  intro p e s m args below meth c hc hk H locs lsA hP hS hl
  exact lv_lload_n hc.1 hc.2.1 d rfl (lvA_get hl hl0) (kk p e s m args below meth c hc hk H locs lsA hP hS hl)
theorem v_lload (q : Nat) {k : Nat} {v : Int64} (hl0 : ls[k]? = some (some (.long v))) (d : decode (mB M) pc = .ok (.lload k, 2)) (hq : pc + 2 = q) (kk : V x M Q q ls (.long v :: st) I L P) : V x M Q pc ls (st) I L P := by
  subst hq
  intro p e s m args below meth c hc hk H locs lsA hP hS hl
  exact lv_lload hc.1 hc.2.1 d (lvA_get hl hl0) (kk p e s m args below meth c hc hk H locs lsA hP hS hl)
theorem v_aload_n (q : Nat) {k : Fin 4} {v : Nat} (hl0 : ls[(k : Nat)]? = some (some (rfv x v))) (d : decode (mB M) pc = .ok (.aload_n k, 1)) (hq : pc + 1 = q) (kk : V x M Q q ls (rfv x v :: st) I L P) : V x M Q pc ls (st) I L P := by
  subst hq
  intro p e s m args below meth c hc hk H locs lsA hP hS hl
  exact lv_aload_n hc.1 hc.2.1 d rfl (lvA_get hl hl0) (kk p e s m args below meth c hc hk H locs lsA hP hS hl)
theorem v_aload (q : Nat) {k : Nat} {v : Nat} (hl0 : ls[k]? = some (some (rfv x v))) (d : decode (mB M) pc = .ok (.aload k, 2)) (hq : pc + 2 = q) (kk : V x M Q q ls (rfv x v :: st) I L P) : V x M Q pc ls (st) I L P := by
  subst hq
  intro p e s m args below meth c hc hk H locs lsA hP hS hl
  exact lv_aload hc.1 hc.2.1 d (lvA_get hl hl0) (kk p e s m args below meth c hc hk H locs lsA hP hS hl)
theorem v_istore_n (q : Nat) (ls' : List (Option Value)) {k : Fin 4} {v : Int32} (d : decode (mB M) pc = .ok (.istore_n k, 1)) (hq : pc + 1 = q) (hn : (k : Nat) < mL M) (hls : stA (k : Nat) (.int v) 0 ls = ls') (kk : V x M Q q ls' st I L P) : V x M Q pc ls (.int v :: st) I L P := by
  subst hq
  subst hls
  intro p e s m args below meth c hc hk H locs lsA hP hS hl
  exact lv_istore_n hc.1 hc.2.1 d rfl hl hn rfl (fun ls1 h1 => kk p e s m args below meth c hc hk H locs ls1 hP hS (lvA_stA h1))
theorem v_istore (q : Nat) (ls' : List (Option Value)) {k : Nat} {v : Int32} (d : decode (mB M) pc = .ok (.istore k, 2)) (hq : pc + 2 = q) (hn : k < mL M) (hls : stA k (.int v) 0 ls = ls') (kk : V x M Q q ls' st I L P) : V x M Q pc ls (.int v :: st) I L P := by
  subst hq
  subst hls
  intro p e s m args below meth c hc hk H locs lsA hP hS hl
  exact lv_istore hc.1 hc.2.1 d hl hn rfl (fun ls1 h1 => kk p e s m args below meth c hc hk H locs ls1 hP hS (lvA_stA h1))
theorem v_astore_n (q : Nat) (ls' : List (Option Value)) {k : Fin 4} {v : Nat} (d : decode (mB M) pc = .ok (.astore_n k, 1)) (hq : pc + 1 = q) (hn : (k : Nat) < mL M) (hls : stA (k : Nat) (rfv x v) 0 ls = ls') (kk : V x M Q q ls' st I L P) : V x M Q pc ls (rfv x v :: st) I L P := by
  subst hq
  subst hls
  intro p e s m args below meth c hc hk H locs lsA hP hS hl
  exact lv_astore_n hc.1 hc.2.1 d rfl hl hn rfl (fun ls1 h1 => kk p e s m args below meth c hc hk H locs ls1 hP hS (lvA_stA h1))
theorem v_astore (q : Nat) (ls' : List (Option Value)) {k : Nat} {v : Nat} (d : decode (mB M) pc = .ok (.astore k, 2)) (hq : pc + 2 = q) (hn : k < mL M) (hls : stA k (rfv x v) 0 ls = ls') (kk : V x M Q q ls' st I L P) : V x M Q pc ls (rfv x v :: st) I L P := by
  subst hq
  subst hls
  intro p e s m args below meth c hc hk H locs lsA hP hS hl
  exact lv_astore hc.1 hc.2.1 d hl hn rfl (fun ls1 h1 => kk p e s m args below meth c hc hk H locs ls1 hP hS (lvA_stA h1))
theorem v_lstore_n (q : Nat) (ls' : List (Option Value)) {k : Fin 4} {v : Int64} (d : decode (mB M) pc = .ok (.lstore_n k, 1)) (hq : pc + 1 = q) (hn : (k : Nat) + 1 < mL M) (hls : stB (k : Nat) (.long v) 0 ls = ls') (kk : V x M Q q ls' st I L P) : V x M Q pc ls (.long v :: st) I L P := by
  subst hq
  subst hls
  intro p e s m args below meth c hc hk H locs lsA hP hS hl
  exact lv_lstore_n hc.1 hc.2.1 d rfl hl hn rfl (fun ls1 h1 => kk p e s m args below meth c hc hk H locs ls1 hP hS (lvA_stB h1))
theorem v_lstore (q : Nat) (ls' : List (Option Value)) {k : Nat} {v : Int64} (d : decode (mB M) pc = .ok (.lstore k, 2)) (hq : pc + 2 = q) (hn : k + 1 < mL M) (hls : stB k (.long v) 0 ls = ls') (kk : V x M Q q ls' st I L P) : V x M Q pc ls (.long v :: st) I L P := by
  subst hq
  subst hls
  intro p e s m args below meth c hc hk H locs lsA hP hS hl
  exact lv_lstore hc.1 hc.2.1 d hl hn rfl (fun ls1 h1 => kk p e s m args below meth c hc hk H locs ls1 hP hS (lvA_stB h1))
theorem v_iinc (q : Nat) (ls' : List (Option Value)) {k : Nat} {n : Int} {a : Int32} (v : Int32) (d : decode (mB M) pc = .ok (.iinc k n, 3)) (hq : pc + 3 = q) (hn : k < mL M) (ha : ls[k]? = some (some (.int a))) (hv : a + Int32.ofInt n = v) (hls : stA k (.int v) 0 ls = ls') (kk : V x M Q q ls' st I L P) : V x M Q pc ls st I L P := by
  subst hq
  subst hls
  intro p e s m args below meth c hc hk H locs lsA hP hS hl
  obtain ⟨j, hj⟩ := List.getElem?_of_mem ((lvA_mem ls 0 (k, .int a)).mpr ⟨Nat.zero_le _, ha⟩)
  exact lv_iinc hc.1 hc.2.1 d hl hj hv hn rfl (fun ls1 h1 => kk p e s m args below meth c hc hk H locs ls1 hP hS (lvA_stA h1))
theorem v_iadd (q : Nat) {a b : Int32} (r : Int32) (d : decode (mB M) pc = .ok (.iadd, 1)) (hq : pc + 1 = q) (hr : a + b = r) (kk : V x M Q q ls (.int r :: st) I L P) : V x M Q pc ls (.int b :: .int a :: st) I L P := by
  subst hq
  subst hr
  intro p e s m args below meth c hc hk H locs lsA hP hS hl
  exact lv_iadd hc.1 hc.2.1 d (kk p e s m args below meth c hc hk H locs lsA hP hS hl)
theorem v_isub (q : Nat) {a b : Int32} (r : Int32) (d : decode (mB M) pc = .ok (.isub, 1)) (hq : pc + 1 = q) (hr : a - b = r) (kk : V x M Q q ls (.int r :: st) I L P) : V x M Q pc ls (.int b :: .int a :: st) I L P := by
  subst hq
  subst hr
  intro p e s m args below meth c hc hk H locs lsA hP hS hl
  exact lv_isub hc.1 hc.2.1 d (kk p e s m args below meth c hc hk H locs lsA hP hS hl)
theorem v_imul (q : Nat) {a b : Int32} (r : Int32) (d : decode (mB M) pc = .ok (.imul, 1)) (hq : pc + 1 = q) (hr : a * b = r) (kk : V x M Q q ls (.int r :: st) I L P) : V x M Q pc ls (.int b :: .int a :: st) I L P := by
  subst hq
  subst hr
  intro p e s m args below meth c hc hk H locs lsA hP hS hl
  exact lv_imul hc.1 hc.2.1 d (kk p e s m args below meth c hc hk H locs lsA hP hS hl)
theorem v_iand (q : Nat) {a b : Int32} (r : Int32) (d : decode (mB M) pc = .ok (.iand, 1)) (hq : pc + 1 = q) (hr : a &&& b = r) (kk : V x M Q q ls (.int r :: st) I L P) : V x M Q pc ls (.int b :: .int a :: st) I L P := by
  subst hq
  subst hr
  intro p e s m args below meth c hc hk H locs lsA hP hS hl
  exact lv_iand hc.1 hc.2.1 d (kk p e s m args below meth c hc hk H locs lsA hP hS hl)
theorem v_ior (q : Nat) {a b : Int32} (r : Int32) (d : decode (mB M) pc = .ok (.ior, 1)) (hq : pc + 1 = q) (hr : a ||| b = r) (kk : V x M Q q ls (.int r :: st) I L P) : V x M Q pc ls (.int b :: .int a :: st) I L P := by
  subst hq
  subst hr
  intro p e s m args below meth c hc hk H locs lsA hP hS hl
  exact lv_ior hc.1 hc.2.1 d (kk p e s m args below meth c hc hk H locs lsA hP hS hl)
theorem v_idiv (q : Nat) {a b : Int32} (r : Int32) (d : decode (mB M) pc = .ok (.idiv, 1)) (hq : pc + 1 = q) (hb : ¬ b = 0) (hr : a / b = r) (kk : V x M Q q ls (.int r :: st) I L P) : V x M Q pc ls (.int b :: .int a :: st) I L P := by
  subst hq
  subst hr
  intro p e s m args below meth c hc hk H locs lsA hP hS hl
  exact lv_idiv hc.1 hc.2.1 d hb (kk p e s m args below meth c hc hk H locs lsA hP hS hl)
theorem v_irem (q : Nat) {a b : Int32} (r : Int32) (d : decode (mB M) pc = .ok (.irem, 1)) (hq : pc + 1 = q) (hb : ¬ b = 0) (hr : a - a / b * b = r) (kk : V x M Q q ls (.int r :: st) I L P) : V x M Q pc ls (.int b :: .int a :: st) I L P := by
  subst hq
  subst hr
  intro p e s m args below meth c hc hk H locs lsA hP hS hl
  exact lv_irem hc.1 hc.2.1 d hb (kk p e s m args below meth c hc hk H locs lsA hP hS hl)
theorem v_ishl (q : Nat) {a b : Int32} (r : Int32) (d : decode (mB M) pc = .ok (.ishl, 1)) (hq : pc + 1 = q) (hr : a <<< (b &&& 31) = r) (kk : V x M Q q ls (.int r :: st) I L P) : V x M Q pc ls (.int b :: .int a :: st) I L P := by
  subst hq
  subst hr
  intro p e s m args below meth c hc hk H locs lsA hP hS hl
  exact lv_ishl hc.1 hc.2.1 d (kk p e s m args below meth c hc hk H locs lsA hP hS hl)
theorem v_ishr (q : Nat) {a b : Int32} (r : Int32) (d : decode (mB M) pc = .ok (.ishr, 1)) (hq : pc + 1 = q) (hr : a >>> (b &&& 31) = r) (kk : V x M Q q ls (.int r :: st) I L P) : V x M Q pc ls (.int b :: .int a :: st) I L P := by
  subst hq
  subst hr
  intro p e s m args below meth c hc hk H locs lsA hP hS hl
  exact lv_ishr hc.1 hc.2.1 d (kk p e s m args below meth c hc hk H locs lsA hP hS hl)
theorem v_ladd (q : Nat) {a b : Int64} (r : Int64) (d : decode (mB M) pc = .ok (.ladd, 1)) (hq : pc + 1 = q) (hr : a + b = r) (kk : V x M Q q ls (.long r :: st) I L P) : V x M Q pc ls (.long b :: .long a :: st) I L P := by
  subst hq
  subst hr
  intro p e s m args below meth c hc hk H locs lsA hP hS hl
  exact lv_ladd hc.1 hc.2.1 d (kk p e s m args below meth c hc hk H locs lsA hP hS hl)
theorem v_lsub (q : Nat) {a b : Int64} (r : Int64) (d : decode (mB M) pc = .ok (.lsub, 1)) (hq : pc + 1 = q) (hr : a - b = r) (kk : V x M Q q ls (.long r :: st) I L P) : V x M Q pc ls (.long b :: .long a :: st) I L P := by
  subst hq
  subst hr
  intro p e s m args below meth c hc hk H locs lsA hP hS hl
  exact lv_lsub hc.1 hc.2.1 d (kk p e s m args below meth c hc hk H locs lsA hP hS hl)
theorem v_lmul (q : Nat) {a b : Int64} (r : Int64) (d : decode (mB M) pc = .ok (.lmul, 1)) (hq : pc + 1 = q) (hr : a * b = r) (kk : V x M Q q ls (.long r :: st) I L P) : V x M Q pc ls (.long b :: .long a :: st) I L P := by
  subst hq
  subst hr
  intro p e s m args below meth c hc hk H locs lsA hP hS hl
  exact lv_lmul hc.1 hc.2.1 d (kk p e s m args below meth c hc hk H locs lsA hP hS hl)
theorem v_ldiv (q : Nat) {a b : Int64} (r : Int64) (d : decode (mB M) pc = .ok (.ldiv, 1)) (hq : pc + 1 = q) (hb : ¬ b = 0) (hr : a / b = r) (kk : V x M Q q ls (.long r :: st) I L P) : V x M Q pc ls (.long b :: .long a :: st) I L P := by
  subst hq
  subst hr
  intro p e s m args below meth c hc hk H locs lsA hP hS hl
  exact lv_ldiv hc.1 hc.2.1 d hb (kk p e s m args below meth c hc hk H locs lsA hP hS hl)
theorem v_lrem (q : Nat) {a b : Int64} (r : Int64) (d : decode (mB M) pc = .ok (.lrem, 1)) (hq : pc + 1 = q) (hb : ¬ b = 0) (hr : a - a / b * b = r) (kk : V x M Q q ls (.long r :: st) I L P) : V x M Q pc ls (.long b :: .long a :: st) I L P := by
  subst hq
  subst hr
  intro p e s m args below meth c hc hk H locs lsA hP hS hl
  exact lv_lrem hc.1 hc.2.1 d hb (kk p e s m args below meth c hc hk H locs lsA hP hS hl)
theorem v_i2l (q : Nat) {a : Int32} (r : Int64) (d : decode (mB M) pc = .ok (.i2l, 1)) (hq : pc + 1 = q) (hr : a.toInt64 = r) (kk : V x M Q q ls (.long r :: st) I L P) : V x M Q pc ls (.int a :: st) I L P := by
  subst hq
  intro p e s m args below meth c hc hk H locs lsA hP hS hl
  exact lv_i2l hc.1 hc.2.1 d hr (kk p e s m args below meth c hc hk H locs lsA hP hS hl)
theorem v_l2i (q : Nat) {a : Int64} (r : Int32) (d : decode (mB M) pc = .ok (.l2i, 1)) (hq : pc + 1 = q) (hr : a.toInt32 = r) (kk : V x M Q q ls (.int r :: st) I L P) : V x M Q pc ls (.long a :: st) I L P := by
  subst hq
  intro p e s m args below meth c hc hk H locs lsA hP hS hl
  exact lv_l2i hc.1 hc.2.1 d hr (kk p e s m args below meth c hc hk H locs lsA hP hS hl)
theorem v_i2c (q : Nat) {a : Int32} (r : Int32) (d : decode (mB M) pc = .ok (.i2c, 1)) (hq : pc + 1 = q) (hr : (a.toUInt32 % 65536).toInt32 = r) (kk : V x M Q q ls (.int r :: st) I L P) : V x M Q pc ls (.int a :: st) I L P := by
  subst hq
  intro p e s m args below meth c hc hk H locs lsA hP hS hl
  exact lv_i2c hc.1 hc.2.1 d hr (kk p e s m args below meth c hc hk H locs lsA hP hS hl)
theorem v_dup (q : Nat) {a : Value} (d : decode (mB M) pc = .ok (.dup, 1)) (hq : pc + 1 = q) (ha : a.category = 1) (kk : V x M Q q ls (a :: a :: st) I L P) : V x M Q pc ls (a :: st) I L P := by
  subst hq
  intro p e s m args below meth c hc hk H locs lsA hP hS hl
  exact lv_dup hc.1 hc.2.1 d ha (kk p e s m args below meth c hc hk H locs lsA hP hS hl)
theorem v_dup2 (q : Nat) {a b : Value} (d : decode (mB M) pc = .ok (.dup2, 1)) (hq : pc + 1 = q) (ha : a.category = 1) (hb : b.category = 1) (kk : V x M Q q ls (a :: b :: a :: b :: st) I L P) : V x M Q pc ls (a :: b :: st) I L P := by
  subst hq
  intro p e s m args below meth c hc hk H locs lsA hP hS hl
  exact lv_dup2_11 hc.1 hc.2.1 d ha hb (kk p e s m args below meth c hc hk H locs lsA hP hS hl)
theorem v_goto (q : Nat) {off : Int} (d : decode (mB M) pc = .ok (.goto off, 3)) (ht : (pc : Int) + off = (q : Int)) (kk : V x M Q q ls st I L P) : V x M Q pc ls st I L P := by
  intro p e s m args below meth c hc hk H locs lsA hP hS hl
  exact lv_goto hc.1 hc.2.1 d ht (kk p e s m args below meth c hc hk H locs lsA hP hS hl)
theorem v_if_eq (t q : Nat) {a : Int32} {off : Int} (d : decode (mB M) pc = .ok (.ifCond .eq off, 3)) (ht : (pc : Int) + off = (t : Int)) (hq : pc + 3 = q) (kt : a = 0 → V x M Q t ls st I L P) (kf : ¬ (a = 0) → V x M Q q ls st I L P) : V x M Q pc ls (.int a :: st) I L P := by
  subst hq
  intro p e s m args below meth c hc hk H locs lsA hP hS hl
  exact lv_if_eq hc.1 hc.2.1 d ht (fun h => kt h p e s m args below meth c hc hk H locs lsA hP hS hl) (fun h => kf h p e s m args below meth c hc hk H locs lsA hP hS hl)
theorem v_if_ne (t q : Nat) {a : Int32} {off : Int} (d : decode (mB M) pc = .ok (.ifCond .ne off, 3)) (ht : (pc : Int) + off = (t : Int)) (hq : pc + 3 = q) (kt : ¬ a = 0 → V x M Q t ls st I L P) (kf : a = 0 → V x M Q q ls st I L P) : V x M Q pc ls (.int a :: st) I L P := by
  subst hq
  intro p e s m args below meth c hc hk H locs lsA hP hS hl
  exact lv_if_ne hc.1 hc.2.1 d ht (fun h => kt h p e s m args below meth c hc hk H locs lsA hP hS hl) (fun h => kf h p e s m args below meth c hc hk H locs lsA hP hS hl)
theorem v_if_lt (t q : Nat) {a : Int32} {off : Int} (d : decode (mB M) pc = .ok (.ifCond .lt off, 3)) (ht : (pc : Int) + off = (t : Int)) (hq : pc + 3 = q) (kt : a < 0 → V x M Q t ls st I L P) (kf : ¬ (a < 0) → V x M Q q ls st I L P) : V x M Q pc ls (.int a :: st) I L P := by
  subst hq
  intro p e s m args below meth c hc hk H locs lsA hP hS hl
  exact lv_if_lt hc.1 hc.2.1 d ht (fun h => kt h p e s m args below meth c hc hk H locs lsA hP hS hl) (fun h => kf h p e s m args below meth c hc hk H locs lsA hP hS hl)
theorem v_if_ge (t q : Nat) {a : Int32} {off : Int} (d : decode (mB M) pc = .ok (.ifCond .ge off, 3)) (ht : (pc : Int) + off = (t : Int)) (hq : pc + 3 = q) (kt : 0 ≤ a → V x M Q t ls st I L P) (kf : ¬ (0 ≤ a) → V x M Q q ls st I L P) : V x M Q pc ls (.int a :: st) I L P := by
  subst hq
  intro p e s m args below meth c hc hk H locs lsA hP hS hl
  exact lv_if_ge hc.1 hc.2.1 d ht (fun h => kt h p e s m args below meth c hc hk H locs lsA hP hS hl) (fun h => kf h p e s m args below meth c hc hk H locs lsA hP hS hl)
theorem v_if_gt (t q : Nat) {a : Int32} {off : Int} (d : decode (mB M) pc = .ok (.ifCond .gt off, 3)) (ht : (pc : Int) + off = (t : Int)) (hq : pc + 3 = q) (kt : 0 < a → V x M Q t ls st I L P) (kf : ¬ (0 < a) → V x M Q q ls st I L P) : V x M Q pc ls (.int a :: st) I L P := by
  subst hq
  intro p e s m args below meth c hc hk H locs lsA hP hS hl
  exact lv_if_gt hc.1 hc.2.1 d ht (fun h => kt h p e s m args below meth c hc hk H locs lsA hP hS hl) (fun h => kf h p e s m args below meth c hc hk H locs lsA hP hS hl)
theorem v_if_le (t q : Nat) {a : Int32} {off : Int} (d : decode (mB M) pc = .ok (.ifCond .le off, 3)) (ht : (pc : Int) + off = (t : Int)) (hq : pc + 3 = q) (kt : a ≤ 0 → V x M Q t ls st I L P) (kf : ¬ (a ≤ 0) → V x M Q q ls st I L P) : V x M Q pc ls (.int a :: st) I L P := by
  subst hq
  intro p e s m args below meth c hc hk H locs lsA hP hS hl
  exact lv_if_le hc.1 hc.2.1 d ht (fun h => kt h p e s m args below meth c hc hk H locs lsA hP hS hl) (fun h => kf h p e s m args below meth c hc hk H locs lsA hP hS hl)
theorem v_icmp_eq (t q : Nat) {a b : Int32} {off : Int} (d : decode (mB M) pc = .ok (.if_icmp .eq off, 3)) (ht : (pc : Int) + off = (t : Int)) (hq : pc + 3 = q) (kt : a = b → V x M Q t ls st I L P) (kf : ¬ (a = b) → V x M Q q ls st I L P) : V x M Q pc ls (.int b :: .int a :: st) I L P := by
  subst hq
  intro p e s m args below meth c hc hk H locs lsA hP hS hl
  exact lv_icmp_eq hc.1 hc.2.1 d ht (fun h => kt h p e s m args below meth c hc hk H locs lsA hP hS hl) (fun h => kf h p e s m args below meth c hc hk H locs lsA hP hS hl)
theorem v_icmp_ne (t q : Nat) {a b : Int32} {off : Int} (d : decode (mB M) pc = .ok (.if_icmp .ne off, 3)) (ht : (pc : Int) + off = (t : Int)) (hq : pc + 3 = q) (kt : ¬ a = b → V x M Q t ls st I L P) (kf : a = b → V x M Q q ls st I L P) : V x M Q pc ls (.int b :: .int a :: st) I L P := by
  subst hq
  intro p e s m args below meth c hc hk H locs lsA hP hS hl
  exact lv_icmp_ne hc.1 hc.2.1 d ht (fun h => kt h p e s m args below meth c hc hk H locs lsA hP hS hl) (fun h => kf h p e s m args below meth c hc hk H locs lsA hP hS hl)
theorem v_icmp_lt (t q : Nat) {a b : Int32} {off : Int} (d : decode (mB M) pc = .ok (.if_icmp .lt off, 3)) (ht : (pc : Int) + off = (t : Int)) (hq : pc + 3 = q) (kt : a < b → V x M Q t ls st I L P) (kf : ¬ (a < b) → V x M Q q ls st I L P) : V x M Q pc ls (.int b :: .int a :: st) I L P := by
  subst hq
  intro p e s m args below meth c hc hk H locs lsA hP hS hl
  exact lv_icmp_lt hc.1 hc.2.1 d ht (fun h => kt h p e s m args below meth c hc hk H locs lsA hP hS hl) (fun h => kf h p e s m args below meth c hc hk H locs lsA hP hS hl)
theorem v_icmp_ge (t q : Nat) {a b : Int32} {off : Int} (d : decode (mB M) pc = .ok (.if_icmp .ge off, 3)) (ht : (pc : Int) + off = (t : Int)) (hq : pc + 3 = q) (kt : b ≤ a → V x M Q t ls st I L P) (kf : ¬ (b ≤ a) → V x M Q q ls st I L P) : V x M Q pc ls (.int b :: .int a :: st) I L P := by
  subst hq
  intro p e s m args below meth c hc hk H locs lsA hP hS hl
  exact lv_icmp_ge hc.1 hc.2.1 d ht (fun h => kt h p e s m args below meth c hc hk H locs lsA hP hS hl) (fun h => kf h p e s m args below meth c hc hk H locs lsA hP hS hl)
theorem v_icmp_gt (t q : Nat) {a b : Int32} {off : Int} (d : decode (mB M) pc = .ok (.if_icmp .gt off, 3)) (ht : (pc : Int) + off = (t : Int)) (hq : pc + 3 = q) (kt : b < a → V x M Q t ls st I L P) (kf : ¬ (b < a) → V x M Q q ls st I L P) : V x M Q pc ls (.int b :: .int a :: st) I L P := by
  subst hq
  intro p e s m args below meth c hc hk H locs lsA hP hS hl
  exact lv_icmp_gt hc.1 hc.2.1 d ht (fun h => kt h p e s m args below meth c hc hk H locs lsA hP hS hl) (fun h => kf h p e s m args below meth c hc hk H locs lsA hP hS hl)
theorem v_icmp_le (t q : Nat) {a b : Int32} {off : Int} (d : decode (mB M) pc = .ok (.if_icmp .le off, 3)) (ht : (pc : Int) + off = (t : Int)) (hq : pc + 3 = q) (kt : a ≤ b → V x M Q t ls st I L P) (kf : ¬ (a ≤ b) → V x M Q q ls st I L P) : V x M Q pc ls (.int b :: .int a :: st) I L P := by
  subst hq
  intro p e s m args below meth c hc hk H locs lsA hP hS hl
  exact lv_icmp_le hc.1 hc.2.1 d ht (fun h => kt h p e s m args below meth c hc hk H locs lsA hP hS hl) (fun h => kf h p e s m args below meth c hc hk H locs lsA hP hS hl)
theorem v_lcmp (q : Nat) {a b : Int64} (d : decode (mB M) pc = .ok (.lcmp, 1)) (hq : pc + 1 = q) (kk : V x M Q q ls (.int (lg_cmp a b) :: st) I L P) : V x M Q pc ls (.long b :: .long a :: st) I L P := by
  subst hq
  intro p e s m args below meth c hc hk H locs lsA hP hS hl
  exact W.lcmp hc.1 hc.2.1 d (kk p e s m args below meth c hc hk H locs lsA hP hS hl)
theorem v_ldc2 (q : Nat) (v : Int64) {index : Nat} (d : decode (mB M) pc = .ok (.ldc2_w index, 3)) (hq : pc + 3 = q) (hw : Cond.constantLong (mY M).cls index v ∈ TB) (kk : V x M Q q ls (.long v :: st) I L P) : V x M Q pc ls st I L P := by
  subst hq
  intro p e s m args below meth c hc hk H locs lsA hP hS hl
  exact lv_ldc2 hc.1 hc.2.1 hc.2.2.2.2.1 (hc.2.2.2.2.2.1 _ (List.mem_cons_of_mem _ hw)) d (kk p e s m args below meth c hc hk H locs lsA hP hS hl)
theorem v_ldc (q : Nat) (v : Int32) {index : Nat} (d : decode (mB M) pc = .ok (.ldc index, 2)) (hq : pc + 2 = q) (hw : Cond.constant (mY M).cls index v ∈ TB) (kk : V x M Q q ls (.int v :: st) I L P) : V x M Q pc ls st I L P := by
  subst hq
  intro p e s m args below meth c hc hk H locs lsA hP hS hl
  exact lv_ldc hc.1 hc.2.1 hc.2.2.2.2.1 (hc.2.2.2.2.2.1 _ (List.mem_cons_of_mem _ hw)) d (kk p e s m args below meth c hc hk H locs lsA hP hS hl)
/-! fields -/
def vC (ci : Nat) : String := match ci with
  | 0 => RX0 | 1 => RX1 | 2 => RX2 | 3 => RX3 | 4 => RX4 | 5 => RX5 | 6 => RX6 | 7 => RX7 | _ => RX8
def vT (ci : Nat) : u_T := match ci with
  | 0 => TX0 | 1 => TX1 | 2 => TX2 | 3 => TX3 | 4 => TX4 | 5 => TX5 | 6 => TX6 | 7 => TX7 | _ => TX8
def vY (ci : Nat) : Nat → FieldType := match ci with
  | 0 => tyX0 | 1 => tyX1 | 2 => tyX2 | 3 => tyX3 | 4 => tyX4 | 5 => tyX5 | 6 => tyX6 | 7 => tyX7 | _ => tyX8
theorem v_cl {ci : Nat} (h : ci < 9) : vwCl[ci]? = some (vC ci, vT ci, nf ci) := by
  match ci, h with
  | 0, _ => rfl
  | 1, _ => rfl
  | 2, _ => rfl
  | 3, _ => rfl
  | 4, _ => rfl
  | 5, _ => rfl
  | 6, _ => rfl
  | 7, _ => rfl
  | 8, _ => rfl
theorem v_wi {ci : Nat} (h : ci < 9) : ∀ w ∈ u_ws (vC ci) (vT ci) (nf ci), w ∈ TB := by
  match ci, h with
  | 0, _ => exact wi_X0
  | 1, _ => exact wi_X1
  | 2, _ => exact wi_X2
  | 3, _ => exact wi_X3
  | 4, _ => exact wi_X4
  | 5, _ => exact wi_X5
  | 6, _ => exact wi_X6
  | 7, _ => exact wi_X7
  | 8, _ => exact wi_X8
theorem v_ty {ci : Nat} (h : ci < 9) : ∀ k, k < nf ci → parseFieldDescriptor (vT ci k).2.2.1 = some (vY ci k) := by
  match ci, h with
  | 0, _ => exact tyX0_ok
  | 1, _ => exact tyX1_ok
  | 2, _ => exact tyX2_ok
  | 3, _ => exact tyX3_ok
  | 4, _ => exact tyX4_ok
  | 5, _ => exact tyX5_ok
  | 6, _ => exact tyX6_ok
  | 7, _ => exact tyX7_ok
  | 8, _ => exact tyX8_ok
theorem v_nm {ci : Nat} (h : ci < 9) : ∀ a, a < nf ci → ∀ b, b < nf ci → a ≠ b → (vT ci a).2.1 ≠ (vT ci b).2.1 := by
  match ci, h with
  | 0, _ => exact nmX0
  | 1, _ => exact nmX1
  | 2, _ => exact nmX2
  | 3, _ => exact nmX3
  | 4, _ => exact nmX4
  | 5, _ => exact nmX5
  | 6, _ => exact nmX6
  | 7, _ => exact nmX7
  | 8, _ => exact nmX8
theorem cE_obj {i ci : Nat} (h : hs i = (0, ci)) : cE x I L P i = .inr (ci, (List.range (nf ci)).map (fvl x ci i I L)) := by
  simp [cE, h]
theorem cE_i {i n : Nat} (h : hs i = (1, n)) : cE x I L P i = .inl (x_I x, n, .inl (I i)) := by
  simp [cE, h]
theorem cE_c {i n : Nat} (h : hs i = (2, n)) : cE x I L P i = .inl (x_C x, n, .inl (I i)) := by
  simp [cE, h]
theorem cE_l {i n : Nat} (h : hs i = (3, n)) : cE x I L P i = .inl (x_J x, n, .inr (.inl (L i))) := by
  simp [cE, h]
theorem cE_r {i n : Nat} (h : hs i = (4, n)) : cE x I L P i = .inl (x_R x, n, .inr (.inr (.inr (.inr (fun j => some (x_ad x (P j))))))) := by
  simp [cE, h]
theorem cE_same {i : Nat} {I' : Iv} {L' : Lv} (hI : I' i = I i) (hL : L' i = L i) : cE x I' L' P i = cE x I L P i := by
  have e : ∀ ci, fvl x ci i I' L' = fvl x ci i I L := fun ci => funext fun k => by simp only [fvl, hI, hL]
  simp only [cE, hI, hL, e]
def up2 {α : Type} (f : Nat → Nat → α) (i k : Nat) (a : α) : Nat → Nat → α := fun p q => if p = i ∧ q = k then a else f p q
theorem up2_ne {α : Type} {f : Nat → Nat → α} {i k j : Nat} {a : α} (h : j ≠ i) : up2 f i k a j = f j := by
  funext q
  simp [up2, h]
theorem up2_upd {f : Iv} {i k : Nat} {a : Int32} : up2 f i k a i = upd (f i) k a := by
  funext q
  simp [up2, upd]
theorem up2_updL {f : Lv} {i k : Nat} {a : Int64} : up2 f i k a i = vp_updL (f i) k a := by
  funext q
  simp [up2, vp_updL]
theorem fvl_set {ci i k n : Nat} {I' : Iv} {L' : Lv} {v : Value} (hk : k < n) (h1 : fvl x ci i I' L' k = v) (h2 : ∀ j, j ≠ k → fvl x ci i I' L' j = fvl x ci i I L j) : (List.range n).map (fvl x ci i I' L') = ((List.range n).map (fvl x ci i I L)).set k v := by
  apply List.ext_getElem?
  intro j
  rw [List.getElem?_set]
  by_cases e : k = j
  · subst e
    simp [hk, h1]
  · rw [if_neg e]
    by_cases hj : j < n
    · simp [hj, h2 j (fun q => e q.symm)]
    · simp [hj]

theorem v_get (q : Nat) {index i k : Nat} (ci : Nat) (v : Value) (hi : i < 54) (hs1 : hs i = (0, ci)) (hci : ci < 9) (hk1 : k < nf ci) (d : decode (mB M) pc = .ok (.getfield index, 3)) (hq : pc + 3 = q) (hw : Cond.fieldLink (mY M).cls index (vT ci k).1 (vT ci k).2.1 (vT ci k).2.2.1 ∈ TB) (hv : fvl x ci i I L k = v) (kk : V x M Q q ls (v :: st) I L P) : V x M Q pc ls (rfv x i :: st) I L P := by
  subst hq
  intro p e s m args below meth c hc hk H locs lsA hP hS hl
  exact va_get hc.1 hc.2.1 (Ts := TB) (fun w hw => hc.2.2.2.2.2.1 w (List.mem_cons_of_mem _ hw)) (v_wi hci) hc.2.2.2.2.1 hk.1 hP i ((wl_get hi).trans (by rw [cE_obj hs1])) (v_cl hci) k hk1 (hc.2.2.2.2.2.1 _ (List.mem_cons_of_mem _ hw)) (fun _ h9 => h9) (v := v) (by simp [hk1, hv]) d (kk p e s m args below meth c hc hk H locs lsA hP hS hl)
theorem v_putI (q : Nat) {index i k : Nat} (ci : Nat) {a : Int32} (ty : FieldType) (hi : i < 54) (hs1 : hs i = (0, ci)) (hci : ci < 9) (hk1 : k < nf ci) (hfin : (vT ci k).2.2.2 = false) (hd : parseFieldDescriptor (vT ci k).2.2.1 = some ty) (hn : narrow ty (.int a) = .int a) (hft : fits ty (.int a) = true) (hfv : ∀ (I9 : Iv) (L9 : Lv), fvl x ci i I9 L9 k = .int (I9 i k)) (d : decode (mB M) pc = .ok (.putfield index, 3)) (hq : pc + 3 = q) (hw : Cond.fieldLink (mY M).cls index (vT ci k).1 (vT ci k).2.1 (vT ci k).2.2.1 ∈ TB) (kk : V x M Q q ls st (up2 I i k a) L P) : V x M Q pc ls (.int a :: rfv x i :: st) I L P := by
  subst hq
  intro p e s m args below meth c hc hk H locs lsA hP hS hl
  refine va_put hc.1 hc.2.1 (Ts := TB) (fun w hw => hc.2.2.2.2.2.1 w (List.mem_cons_of_mem _ hw)) (v_wi hci) (vY ci) (v_ty hci) (v_nm hci) hc.2.2.2.2.1 hk.1 hP (wl_D _ hk.2.2) hS i ((wl_get hi).trans (by rw [cE_obj hs1])) (v_cl hci) k hk1 (hc.2.2.2.2.2.1 _ (List.mem_cons_of_mem _ hw)) (fun _ h9 => h9) hfin hd hn hft (by simp [hk1]) d (fun H1 locs1 hP1 _ hS1 => ?_)
  rw [wl_set (E' := cE x (up2 I i k a) L P) hi (by rw [cE_obj hs1, fvl_set (I := I) (L := L) (v := .int a) hk1 ((hfv _ _).trans (by simp [up2])) (fun j hj => by simp only [fvl, up2, hj, and_false, if_false])]) (fun j hj => cE_same (up2_ne hj) rfl)] at hP1
  exact kk p e s m args below meth c hc hk H1 locs1 lsA hP1 hS1 hl
theorem v_putL (q : Nat) {index i k : Nat} (ci : Nat) {a : Int64} (ty : FieldType) (hi : i < 54) (hs1 : hs i = (0, ci)) (hci : ci < 9) (hk1 : k < nf ci) (hfin : (vT ci k).2.2.2 = false) (hd : parseFieldDescriptor (vT ci k).2.2.1 = some ty) (hn : narrow ty (.long a) = .long a) (hft : fits ty (.long a) = true) (hfv : ∀ (I9 : Iv) (L9 : Lv), fvl x ci i I9 L9 k = .long (L9 i k)) (d : decode (mB M) pc = .ok (.putfield index, 3)) (hq : pc + 3 = q) (hw : Cond.fieldLink (mY M).cls index (vT ci k).1 (vT ci k).2.1 (vT ci k).2.2.1 ∈ TB) (kk : V x M Q q ls st I (up2 L i k a) P) : V x M Q pc ls (.long a :: rfv x i :: st) I L P := by
  subst hq
  intro p e s m args below meth c hc hk H locs lsA hP hS hl
  refine va_put hc.1 hc.2.1 (Ts := TB) (fun w hw => hc.2.2.2.2.2.1 w (List.mem_cons_of_mem _ hw)) (v_wi hci) (vY ci) (v_ty hci) (v_nm hci) hc.2.2.2.2.1 hk.1 hP (wl_D _ hk.2.2) hS i ((wl_get hi).trans (by rw [cE_obj hs1])) (v_cl hci) k hk1 (hc.2.2.2.2.2.1 _ (List.mem_cons_of_mem _ hw)) (fun _ h9 => h9) hfin hd hn hft (by simp [hk1]) d (fun H1 locs1 hP1 _ hS1 => ?_)
  rw [wl_set (E' := cE x I (up2 L i k a) P) hi (by rw [cE_obj hs1, fvl_set (I := I) (L := L) (v := .long a) hk1 ((hfv _ _).trans (by simp [up2])) (fun j hj => by simp only [fvl, up2, hj, and_false, if_false])]) (fun j hj => cE_same rfl (up2_ne hj))] at hP1
  exact kk p e s m args below meth c hc hk H1 locs1 lsA hP1 hS1 hl
theorem v_getN (q : Nat) {index i k : Nat} (ci : Nat) {host : String} (v : Value) (hi : i < 54) (hs1 : hs i = (0, ci)) (hci : ci < 9) (hk1 : k < nf ci) (d : decode (mB M) pc = .ok (.getfield index, 3)) (hq : pc + 3 = q) (hw : Cond.fieldLinkNest (mY M).cls index (vT ci k).1 (vT ci k).2.1 (vT ci k).2.2.1 host ∈ nestW) (hv : fvl x ci i I L k = v) (kk : V x M Q q ls (v :: st) I L P) : V x M Q pc ls (rfv x i :: st) I L P := by
  subst hq
  intro p e s m args below meth c hc hk H locs lsA hP hS hl
  exact va_getN hc.1 hc.2.1 (Ts := TB) (fun w hw => hc.2.2.2.2.2.1 w (List.mem_cons_of_mem _ hw)) (v_wi hci) hc.2.2.2.2.1 hk.1 hP i ((wl_get hi).trans (by rw [cE_obj hs1])) (v_cl hci) k hk1 (va_Nw.use rfl (hk.2.1 _ hw)) (fun _ h9 => h9) (v := v) (by simp [hk1, hv]) d (kk p e s m args below meth c hc hk H locs lsA hP hS hl)
theorem v_putIN (q : Nat) {index i k : Nat} (ci : Nat) {host : String} {a : Int32} (ty : FieldType) (hi : i < 54) (hs1 : hs i = (0, ci)) (hci : ci < 9) (hk1 : k < nf ci) (hfin : (vT ci k).2.2.2 = false) (hd : parseFieldDescriptor (vT ci k).2.2.1 = some ty) (hn : narrow ty (.int a) = .int a) (hft : fits ty (.int a) = true) (hfv : ∀ (I9 : Iv) (L9 : Lv), fvl x ci i I9 L9 k = .int (I9 i k)) (d : decode (mB M) pc = .ok (.putfield index, 3)) (hq : pc + 3 = q) (hw : Cond.fieldLinkNest (mY M).cls index (vT ci k).1 (vT ci k).2.1 (vT ci k).2.2.1 host ∈ nestW) (kk : V x M Q q ls st (up2 I i k a) L P) : V x M Q pc ls (.int a :: rfv x i :: st) I L P := by
  subst hq
  intro p e s m args below meth c hc hk H locs lsA hP hS hl
  refine va_putN hc.1 hc.2.1 (Ts := TB) (fun w hw => hc.2.2.2.2.2.1 w (List.mem_cons_of_mem _ hw)) (v_wi hci) (vY ci) (v_ty hci) (v_nm hci) hc.2.2.2.2.1 hk.1 hP (wl_D _ hk.2.2) hS i ((wl_get hi).trans (by rw [cE_obj hs1])) (v_cl hci) k hk1 (va_Nw.use rfl (hk.2.1 _ hw)) (fun _ h9 => h9) hfin hd hn hft (by simp [hk1]) d (fun H1 locs1 hP1 _ hS1 => ?_)
  rw [wl_set (E' := cE x (up2 I i k a) L P) hi (by rw [cE_obj hs1, fvl_set (I := I) (L := L) (v := .int a) hk1 ((hfv _ _).trans (by simp [up2])) (fun j hj => by simp only [fvl, up2, hj, and_false, if_false])]) (fun j hj => cE_same (up2_ne hj) rfl)] at hP1
  exact kk p e s m args below meth c hc hk H1 locs1 lsA hP1 hS1 hl
theorem v_putLN (q : Nat) {index i k : Nat} (ci : Nat) {host : String} {a : Int64} (ty : FieldType) (hi : i < 54) (hs1 : hs i = (0, ci)) (hci : ci < 9) (hk1 : k < nf ci) (hfin : (vT ci k).2.2.2 = false) (hd : parseFieldDescriptor (vT ci k).2.2.1 = some ty) (hn : narrow ty (.long a) = .long a) (hft : fits ty (.long a) = true) (hfv : ∀ (I9 : Iv) (L9 : Lv), fvl x ci i I9 L9 k = .long (L9 i k)) (d : decode (mB M) pc = .ok (.putfield index, 3)) (hq : pc + 3 = q) (hw : Cond.fieldLinkNest (mY M).cls index (vT ci k).1 (vT ci k).2.1 (vT ci k).2.2.1 host ∈ nestW) (kk : V x M Q q ls st I (up2 L i k a) P) : V x M Q pc ls (.long a :: rfv x i :: st) I L P := by
  subst hq
  intro p e s m args below meth c hc hk H locs lsA hP hS hl
  refine va_putN hc.1 hc.2.1 (Ts := TB) (fun w hw => hc.2.2.2.2.2.1 w (List.mem_cons_of_mem _ hw)) (v_wi hci) (vY ci) (v_ty hci) (v_nm hci) hc.2.2.2.2.1 hk.1 hP (wl_D _ hk.2.2) hS i ((wl_get hi).trans (by rw [cE_obj hs1])) (v_cl hci) k hk1 (va_Nw.use rfl (hk.2.1 _ hw)) (fun _ h9 => h9) hfin hd hn hft (by simp [hk1]) d (fun H1 locs1 hP1 _ hS1 => ?_)
  rw [wl_set (E' := cE x I (up2 L i k a) P) hi (by rw [cE_obj hs1, fvl_set (I := I) (L := L) (v := .long a) hk1 ((hfv _ _).trans (by simp [up2])) (fun j hj => by simp only [fvl, up2, hj, and_false, if_false])]) (fun j hj => cE_same rfl (up2_ne hj))] at hP1
  exact kk p e s m args below meth c hc hk H1 locs1 lsA hP1 hS1 hl
/-! rows of arrays -/
theorem v_iald (q : Nat) {i n k : Nat} {j : Int32} (a : Int32) (hi : i < 54) (hs1 : hs i = (1, n)) (hb : n < 2147483648) (d : decode (mB M) pc = .ok (.iaload, 1)) (hq : pc + 1 = q) (hj : j = nI k) (hk1 : k < n) (hv : I i k = a) (kk : V x M Q q ls (.int a :: st) I L P) : V x M Q pc ls (.int j :: rfv x i :: st) I L P := by
  subst hq
  subst hj
  subst hv
  intro p e s m args below meth c hc hk H locs lsA hP hS hl
  refine va_iald hc.1 hc.2.1 hk.1 hP i 0 ((wl_get hi).trans (by rw [cE_i hs1])) rfl (vp_in_nI hk1 hb) d ?_
  rw [nI_clamp (Nat.lt_trans hk1 hb)]
  exact kk p e s m args below meth c hc hk H locs lsA hP hS hl
theorem v_iast (q : Nat) {i n k : Nat} {j : Int32} {a : Int32} (b : Int32) (hi : i < 54) (hs1 : hs i = (1, n)) (hb : n < 2147483648) (d : decode (mB M) pc = .ok (.iastore, 1)) (hq : pc + 1 = q) (hj : j = nI k) (hk1 : k < n) (hb2 : a = b) (kk : V x M Q q ls st (up2 I i k b) L P) : V x M Q pc ls (.int a :: .int j :: rfv x i :: st) I L P := by
  subst hq
  subst hj
  subst hb2
  intro p e s m args below meth c hc hk H locs lsA hP hS hl
  refine va_iast hc.1 hc.2.1 hk.1 hP (wl_D _ hk.2.2) hS i 0 ((wl_get hi).trans (by rw [cE_i hs1])) rfl (vp_in_nI hk1 hb) d (fun H1 locs1 hP1 _ hS1 => ?_)
  rw [nI_clamp (Nat.lt_trans hk1 hb), wl_set (E' := cE x (up2 I i k a) L P) hi (by rw [cE_i hs1, up2_upd]) (fun j hj => cE_same (up2_ne hj) rfl)] at hP1
  exact kk p e s m args below meth c hc hk H1 locs1 lsA hP1 hS1 hl
theorem v_cald (q : Nat) {i n k : Nat} {j : Int32} (a : Int32) (hi : i < 54) (hs1 : hs i = (2, n)) (hb : n < 2147483648) (d : decode (mB M) pc = .ok (.caload, 1)) (hq : pc + 1 = q) (hj : j = nI k) (hk1 : k < n) (hv : I i k = a) (kk : V x M Q q ls (.int a :: st) I L P) : V x M Q pc ls (.int j :: rfv x i :: st) I L P := by
  subst hq
  subst hj
  subst hv
  intro p e s m args below meth c hc hk H locs lsA hP hS hl
  refine va_cald hc.1 hc.2.1 hk.1 hP i 1 ((wl_get hi).trans (by rw [cE_c hs1])) rfl (vp_in_nI hk1 hb) d ?_
  rw [nI_clamp (Nat.lt_trans hk1 hb)]
  exact kk p e s m args below meth c hc hk H locs lsA hP hS hl
theorem v_cast (q : Nat) {i n k : Nat} {j : Int32} {a : Int32} (b : Int32) (hi : i < 54) (hs1 : hs i = (2, n)) (hb : n < 2147483648) (d : decode (mB M) pc = .ok (.castore, 1)) (hq : pc + 1 = q) (hj : j = nI k) (hk1 : k < n) (hb2 : vp_nar .char a = b) (kk : V x M Q q ls st (up2 I i k b) L P) : V x M Q pc ls (.int a :: .int j :: rfv x i :: st) I L P := by
  subst hq
  subst hj
  subst hb2
  intro p e s m args below meth c hc hk H locs lsA hP hS hl
  refine va_cast hc.1 hc.2.1 hk.1 hP (wl_D _ hk.2.2) hS i 1 ((wl_get hi).trans (by rw [cE_c hs1])) rfl (vp_in_nI hk1 hb) d (fun H1 locs1 hP1 _ hS1 => ?_)
  rw [nI_clamp (Nat.lt_trans hk1 hb), wl_set (E' := cE x (up2 I i k (vp_nar .char a)) L P) hi (by rw [cE_c hs1, up2_upd]) (fun j hj => cE_same (up2_ne hj) rfl)] at hP1
  exact kk p e s m args below meth c hc hk H1 locs1 lsA hP1 hS1 hl
theorem v_lald (q : Nat) {i n k : Nat} {j : Int32} (a : Int64) (hi : i < 54) (hs1 : hs i = (3, n)) (hb : n < 2147483648) (d : decode (mB M) pc = .ok (.laload, 1)) (hq : pc + 1 = q) (hj : j = nI k) (hk1 : k < n) (hv : L i k = a) (kk : V x M Q q ls (.long a :: st) I L P) : V x M Q pc ls (.int j :: rfv x i :: st) I L P := by
  subst hq
  subst hj
  subst hv
  intro p e s m args below meth c hc hk H locs lsA hP hS hl
  refine va_lald hc.1 hc.2.1 hk.1 hP i 2 ((wl_get hi).trans (by rw [cE_l hs1])) rfl (vp_in_nI hk1 hb) d ?_
  rw [nI_clamp (Nat.lt_trans hk1 hb)]
  exact kk p e s m args below meth c hc hk H locs lsA hP hS hl
theorem v_last (q : Nat) {i n k : Nat} {j : Int32} {a : Int64} (hi : i < 54) (hs1 : hs i = (3, n)) (hb : n < 2147483648) (d : decode (mB M) pc = .ok (.lastore, 1)) (hq : pc + 1 = q) (hj : j = nI k) (hk1 : k < n) (kk : V x M Q q ls st I (up2 L i k a) P) : V x M Q pc ls (.long a :: .int j :: rfv x i :: st) I L P := by
  subst hq
  subst hj
  intro p e s m args below meth c hc hk H locs lsA hP hS hl
  refine va_last hc.1 hc.2.1 hk.1 hP (wl_D _ hk.2.2) hS i 2 ((wl_get hi).trans (by rw [cE_l hs1])) rfl (vp_in_nI hk1 hb) d (fun H1 locs1 hP1 _ hS1 => ?_)
  rw [nI_clamp (Nat.lt_trans hk1 hb), wl_set (E' := cE x I (up2 L i k a) P) hi (by rw [cE_l hs1, up2_updL]) (fun j hj => cE_same rfl (up2_ne hj))] at hP1
  exact kk p e s m args below meth c hc hk H1 locs1 lsA hP1 hS1 hl
theorem v_alen (q : Nat) {i n : Nat} (a : Int32) (hi : i < 54) (hs1 : hs i = (1, n)) (d : decode (mB M) pc = .ok (.arraylength, 1)) (hq : pc + 1 = q) (hv : nI n = a) (kk : V x M Q q ls (.int a :: st) I L P) : V x M Q pc ls (rfv x i :: st) I L P := by
  subst hq
  intro p e s m args below meth c hc hk H locs lsA hP hS hl
  exact va_alen hc.1 hc.2.1 hk.1 hP i 0 ((wl_get hi).trans (by rw [cE_i hs1])) (ty := .int) rfl (show Int32.ofNat n = a from hv) d (kk p e s m args below meth c hc hk H locs lsA hP hS hl)
theorem v_aald (q : Nat) {i n k : Nat} {j : Int32} (a : Nat) (hi : i < 54) (hs1 : hs i = (4, n)) (hb : n < 2147483648) (d : decode (mB M) pc = .ok (.aaload, 1)) (hq : pc + 1 = q) (hj : j = nI k) (hk1 : k < n) (hv : P k = a) (kk : V x M Q q ls (rfv x a :: st) I L P) : V x M Q pc ls (.int j :: rfv x i :: st) I L P := by
  subst hq
  subst hj
  subst hv
  intro p e s m args below meth c hc hk H locs lsA hP hS hl
  refine va_aldq hc.1 hc.2.1 hk.1 hP i 3 ((wl_get hi).trans (by rw [cE_r hs1])) (C := "HiddenRuns$Model") rfl (vp_in_nI hk1 hb) d ?_
  rw [nI_clamp (Nat.lt_trans hk1 hb)]
  exact kk p e s m args below meth c hc hk H locs lsA hP hS hl
theorem cE_P {i : Nat} {P' : Pv} (h : i ≠ 10) (hi : i < 54) : cE x I L P' i = cE x I L P i := by
  have e : (hs i).1 ≠ 4 := (show ∀ i, i < 54 → i ≠ 10 → (hs i).1 ≠ 4 by decide +kernel) i hi h
  have e2 : (hs i).1 = 0 ∨ (hs i).1 = 1 ∨ (hs i).1 = 2 ∨ (hs i).1 = 3 := (show ∀ i, i < 54 → i ≠ 10 → (hs i).1 = 0 ∨ (hs i).1 = 1 ∨ (hs i).1 = 2 ∨ (hs i).1 = 3 by decide +kernel) i hi h
  obtain ⟨a, b⟩ : ∃ y, hs i = y := ⟨_, rfl⟩
  generalize hy : hs i = y at *
  obtain ⟨y1, y2⟩ := y
  simp only at e2
  rcases e2 with rfl | rfl | rfl | rfl <;> simp [cE, hy]
theorem wl_set' {E E' : Nat → va_E} {i : Nat} {e : va_E} (h : i < 54) (h1 : E' i = e) (h2 : ∀ j, j < 54 → j ≠ i → E' j = E j) : (wl x E).set i (x_ad x i, e) = wl x E' := by
  rw [wl_set (E' := fun j => if j = i then e else E j) h (by simp) (fun j hj => by simp [hj])]
  unfold wl
  apply List.map_congr_left
  intro j hj
  have hj2 : j < 54 := List.mem_range.mp hj
  by_cases e0 : j = i
  · subst e0
    simp [h1]
  · simp [e0, h2 j hj2 e0]
theorem v_aast (q : Nat) {k v : Nat} {j : Int32} (hv3 : v < 54) (hs2 : hs v = (0, 3)) (d : decode (mB M) pc = .ok (.aastore, 1)) (hq : pc + 1 = q) (hj : j = nI k) (hk1 : k < 4) (kk : V x M Q q ls st I L (va_up P k v)) : V x M Q pc ls (rfv x v :: .int j :: rfv x 10 :: st) I L P := by
  subst hq
  subst hj
  intro p e s m args below meth c hc hk H locs lsA hP hS hl
  refine va_astq hc.1 hc.2.1 hk.1 hP (wl_D _ hk.2.2) hS 10 3 v 3 (r := (RX3, TX3, 6)) ((wl_get (by decide)).trans (by rw [cE_r (i := 10) (n := 4) rfl])) rfl ((wl_get hv3).trans (by rw [cE_obj hs2])) rfl (vp_in_nI hk1 (by decide)) d (fun H1 locs1 hP1 _ hS1 => ?_)
  rw [nI_clamp (Nat.lt_trans hk1 (by decide)), wl_set' (E' := cE x I L (va_up P k v)) (by decide) (by
    rw [cE_r (i := 10) (n := 4) rfl]
    have e9 : (fun j => some (x_ad x (va_up P k v j))) = va_up (fun j => some (x_ad x (P j))) k (some (x_ad x v)) := by
      funext z
      by_cases hz : z = k <;> simp [va_up, hz]
    rw [e9]) (fun j hj hne => cE_P hne hj)] at hP1
  exact kk p e s m args below meth c hc hk H1 locs1 lsA hP1 hS1 hl
/-! ends -/
theorem v_iret {a : Int32} (hr : mR M = some .int) (d : decode (mB M) pc = .ok (.ireturn, 1)) (hQ : Q (some (.int a)) I L P) : V x M Q pc ls [.int a] I L P := by
  intro p e s m args below meth c hc hk H locs lsA hP hS hl
  exact W.iret hc.1 hc.2.1 (hc.2.2.1.trans hr) (fun t ht hW => ⟨⟨some (.int a), I, L, P, rfl, hQ, by rw [ht]; exact hP⟩, hS.F ht⟩) hS.2.2 d hc.2.2.2.2.2.2
theorem v_zret {a : Int32} (hr : mR M = some .boolean) (d : decode (mB M) pc = .ok (.ireturn, 1)) (hn : narrow .boolean (.int a) = .int a) (hQ : Q (some (.int a)) I L P) : V x M Q pc ls [.int a] I L P := by
  intro p e s m args below meth c hc hk H locs lsA hP hS hl
  exact W.zret hc.1 hc.2.1 (hc.2.2.1.trans hr) hn (fun t ht hW => ⟨⟨some (.int a), I, L, P, rfl, hQ, by rw [ht]; exact hP⟩, hS.F ht⟩) hS.2.2 d hc.2.2.2.2.2.2
theorem v_lret {a : Int64} (hr : mR M = some .long) (d : decode (mB M) pc = .ok (.lreturn, 1)) (hQ : Q (some (.long a)) I L P) : V x M Q pc ls [.long a] I L P := by
  intro p e s m args below meth c hc hk H locs lsA hP hS hl
  exact W.lret hc.1 hc.2.1 (hc.2.2.1.trans hr) (fun t ht hW => ⟨⟨some (.long a), I, L, P, rfl, hQ, by rw [ht]; exact hP⟩, hS.F ht⟩) hS.2.2 d hc.2.2.2.2.2.2
theorem v_vret (hr : mR M = none) (d : decode (mB M) pc = .ok (.return_, 1)) (hQ : Q none I L P) : V x M Q pc ls [] I L P := by
  intro p e s m args below meth c hc hk H locs lsA hP hS hl
  exact W.vret hc.1 hc.2.1 (hc.2.2.1.trans hr) (fun t ht hW => ⟨⟨none, I, L, P, rfl, hQ, by rw [ht]; exact hP⟩, hS.F ht⟩) hS.2.2 d hc.2.2.2.2.2.2
/-! calls -/
/-- what the tables say of a method of its own: not of the place of its call -/
def MC (M' : MI) (n : Nat) : Prop := Cond.code (mY M') (mB M') (mL M') (mR M') ∈ TB ∧ Cond.initialized (mY M').cls ∈ TB ∧ (mY M').cls ≠ "java/lang/invoke/MethodHandle" ∧ (mY M').cls ≠ "java/lang/invoke/VarHandle" ∧ (parseMethodDescriptor (mY M').desc).map (fun d => d.parameters.length) = some n
def roomOk (M M' : MI) : Bool := decide (mF M' + 1 ≤ mF M) && decide (8 + (mL M' + 11) + mO M' ≤ mO M)
theorem roomOk_spec {M M' : MI} (h : roomOk M M' = true) : mF M' + 1 ≤ mF M ∧ 8 + (mL M' + 11) + mO M' ≤ mO M := by
  simpa [roomOk] using h
theorem v_fin {p : Program} {e : Env} {s : State} {m : MethodId} {args : Array Value} {below : List Frame} {meth : Method} {c : Code} {H : Heap} {locs : List Loc} {lsA : Array Slot} {R : Room} {Qz : State → Prop} {Q' : Qt} {a : Array Value} {st0 : List Value} (hr : va_Run p (x_l x) e R s m args below meth c H locs 0 0 0 0 (F0 m pc lsA st0) st (QcO x Q' a) (AA x)) (hS : va_S (AA x) s.heap H locs)
    (kk : ∀ v I' L' P' H1 locs1, Q' v I' L' P' → HP x I' L' P' H1 → va_S (AA x) s.heap H1 locs1 → W p (x_l x) e R s m args below meth c H1 locs1 0 0 Qz (F0 m (pc + 3) lsA (v.toList ++ st))) : W p (x_l x) e R s m args below meth c H locs 0 0 Qz (F0 m pc lsA st0) := by
  intro T hT X
  obtain ⟨v, st₀, t, T', L0, h0, X', hL, e1, e2, ⟨⟨v2, I', L', P', hv, hq, hP⟩, hz, hk⟩, st⟩ := hr T hT X
  cases hv
  rw [h0] at hz hk
  obtain ⟨t2, a1, b1⟩ := kk v I' L' P' T'.heap (locs ++ L0) hq (by rw [e1]; exact hP)
    ⟨Nat.le_trans hS.1 (by rw [e1]; exact hz), fun q h1 h2 => by rw [e1, hk q (Nat.lt_of_lt_of_le h1 hS.1) h2]; exact hS.2.1 q h1 h2, fun q hq => by
      rcases List.mem_append.mp hq with h | h
      · exact hS.2.2 q h
      · exact hL q h⟩ T' rfl X'
  exact ⟨t2, st t2 a1, b1⟩
theorem wsM_ok {M' : MI} {n : Nat} (h : MC M' n) : ∀ w ∈ wsM M', w ∈ TB := by
  intro w hw
  rcases List.mem_cons.mp hw with rfl | hw
  · exact h.1
  · exact hw
theorem gI_V {M M' : MI} {n index : Nat} {own C : String} (h : MC M' n) (h1 : Cond.methodLink own index (mY M') ∈ TB) (h2 : Cond.instanceMethod (mY M') ∈ TB) (h3 : Cond.selects C (mY M') (mY M') ∈ TB) (h4 : Cond.initialized C ∈ TB) : GoodIn (wsM M) (wsV own index C (mY M') (wsM M')) := by
  intro w hw
  have : w ∈ TB := by
    rcases List.mem_append.mp hw with hw | hw
    · simp only [List.mem_cons, List.not_mem_nil, or_false] at hw
      rcases hw with rfl | rfl | rfl | rfl
      · exact h1
      · exact h2
      · exact h3
      · exact h4
    · exact wsM_ok h w hw
  exact ⟨List.mem_cons_of_mem _ this, good_of_word (TB_good w this)⟩
theorem gI_S {M M' : MI} {n index : Nat} {own : String} (h : MC M' n) (h1 : Cond.methodLink own index (mY M') ∈ TB) (h2 : Cond.static (mY M') ∈ TB) (h4 : Cond.initialized own ∈ TB) : GoodIn (wsM M) (wsS own index (mY M') (wsM M')) := by
  intro w hw
  have : w ∈ TB := by
    rcases List.mem_append.mp hw with hw | hw
    · simp only [List.mem_cons, List.not_mem_nil, or_false] at hw
      rcases hw with rfl | rfl | rfl
      · exact h1
      · exact h2
      · exact h4
    · exact wsM_ok h w hw
  exact ⟨List.mem_cons_of_mem _ this, good_of_word (TB_good w this)⟩
theorem gI_M {M M' : MI} {n : Nat} (h : MC M' n) : GoodIn (wsM M) (wsM M') := by
  intro w hw
  have : w ∈ TB := wsM_ok h w hw
  exact ⟨List.mem_cons_of_mem _ this, good_of_word (TB_good w this)⟩

theorem v_invV (q : Nat) (M' : MI) (As : List Value) {index i ci : Nat} (hi : i < 54) (hs1 : hs i = (0, ci)) (hci : ci < 9) (hC : vC ci = (mY M').cls) (d : decode (mB M) pc = .ok (.invokevirtual index, 3)) (hq : pc + 3 = q) (hm : Cond.methodLink (mY M).cls index (mY M') ∈ TB) (him : Cond.instanceMethod (mY M') ∈ TB) (hse : Cond.selects (mY M').cls (mY M') (mY M') ∈ TB) (hmc : MC M' As.length) (hroom : roomOk M M' = true) (hW : (st.map fun v => v.category).sum ≤ 8) (hsp : SP x M' (rfv x i :: As) I L P (fun v I' L' P' => V x M Q q ls (v.toList ++ st) I' L' P')) : V x M Q pc ls (As.reverse ++ rfv x i :: st) I L P := by
  subst hq
  intro p e s m args below meth c hc hk H locs lsA hP hS hl
  have he : (wl x (cE x I L P))[i]? = some (x_ad x i, .inr (ci, (List.range (nf ci)).map (fvl x ci i I L))) := (wl_get hi).trans (by rw [cE_obj hs1])
  refine v_fin (va_runV (nL := mL M) (Ts := wsM M) (own := (mY M).cls) (C := (mY M').cls) (As := As) (rest := st) ⟨hc.1, hc.2.1, hc.2.2.2.1, hc.2.2.2.2.1, hc.2.2.2.2.2.1⟩ hsp (cwV As.length hc.2.2.2.2.2.1 (gI_V hmc hm him hse hmc.2.1) rfl rfl rfl ⟨rfl, hmc.2.2⟩ (roomOk_spec hroom)) ⟨PcO_blind _ _ _ _ _, ?_, fun U hU hW => ⟨rfl, by rw [hU]; exact hP, hk.warm hW⟩⟩ rfl rfl hl.1 rfl (lv_room hW) d ⟨Nat.le_refl _, Nat.le_refl _⟩) hS (fun v I' L' P' H1 locs1 hq hP1 hS1 => hq p e s m args below meth c hc hk H1 locs1 lsA hP1 hS1 hl)
  have h9 := va_recv hk.1 hP (v_cl hci) he
  rw [show ((vC ci, vT ci, nf ci) : vw_C).1 = (mY M').cls from hC] at h9
  exact h9
theorem v_invS (q : Nat) (M' : MI) (As : List Value) {index : Nat} (d : decode (mB M) pc = .ok (.invokestatic index, 3)) (hq : pc + 3 = q) (hown : (mY M').cls = (mY M).cls) (hm : Cond.methodLink (mY M).cls index (mY M') ∈ TB) (hst : Cond.static (mY M') ∈ TB) (hmc : MC M' As.length) (hroom : roomOk M M' = true) (hW : (st.map fun v => v.category).sum ≤ 8) (hsp : SP x M' As I L P (fun v I' L' P' => V x M Q q ls (v.toList ++ st) I' L' P')) : V x M Q pc ls (As.reverse ++ st) I L P := by
  subst hq
  intro p e s m args below meth c hc hk H locs lsA hP hS hl
  exact v_fin (va_runS (nL := mL M) (Ts := wsM M) (own := (mY M).cls) (As := As) (rest := st) ⟨hc.1, hc.2.1, hc.2.2.2.1, hc.2.2.2.2.1, hc.2.2.2.2.2.1⟩ hsp (cwS As.length hc.2.2.2.2.2.1 (gI_S hmc hm hst (by rw [← hown]; exact hmc.2.1)) rfl rfl rfl ⟨hown, hmc.2.2⟩ (roomOk_spec hroom)) ⟨PcO_blind _ _ _ _ _, fun U hU hW => ⟨rfl, by rw [hU]; exact hP, hk.warm hW⟩⟩ rfl rfl hl.1 rfl (lv_room hW) d ⟨Nat.le_refl _, Nat.le_refl _⟩) hS (fun v I' L' P' H1 locs1 hq hP1 hS1 => hq p e s m args below meth c hc hk H1 locs1 lsA hP1 hS1 hl)
theorem v_invT (q : Nat) (M' : MI) (As : List Value) {index : Nat} (d : decode (mB M) pc = .ok (.invokestatic index, 3)) (hq : pc + 3 = q) (hm : Cond.methodLink (mY M).cls index (mY M') ∈ TB) (hst : Cond.static (mY M') ∈ TB) (hmc : MC M' As.length) (hroom : roomOk M M' = true) (hW : (st.map fun v => v.category).sum ≤ 8) (hsp : SP x M' As I L P (fun v I' L' P' => V x M Q q ls (v.toList ++ st) I' L' P')) : V x M Q pc ls (As.reverse ++ st) I L P := by
  subst hq
  intro p e s m args below meth c hc hk H locs lsA hP hS hl
  have ok : ∀ w ∈ TB, w.before args s = true := fun w hw => hc.2.2.2.2.2.1 w (List.mem_cons_of_mem _ hw)
  exact v_fin (va_runS (nL := mL M) (Ts := wsM M) (own := (mY M).cls) (As := As) (rest := st) ⟨hc.1, hc.2.1, hc.2.2.2.1, hc.2.2.2.2.1, hc.2.2.2.2.2.1⟩ hsp ⟨callB_of As.length hc.2.2.2.2.2.1 (gI_M hmc) rfl rfl rfl (ok _ hmc.2.1) (ok _ hm) hmc.2.2 (roomOk_spec hroom), ok _ hst⟩ ⟨PcO_blind _ _ _ _ _, fun U hU hW => ⟨rfl, by rw [hU]; exact hP, hk.warm hW⟩⟩ rfl rfl hl.1 rfl (lv_room hW) d ⟨Nat.le_refl _, Nat.le_refl _⟩) hS (fun v I' L' P' H1 locs1 hq hP1 hS1 => hq p e s m args below meth c hc hk H1 locs1 lsA hP1 hS1 hl)
theorem v_invN (q : Nat) (M' : MI) (As : List Value) {index : Nat} {host : String} (d : decode (mB M) pc = .ok (.invokestatic index, 3)) (hq : pc + 3 = q) (hm : Cond.methodLinkNest (mY M).cls index (mY M') host ∈ nestW) (hst : Cond.static (mY M') ∈ TB) (hmc : MC M' As.length) (hroom : roomOk M M' = true) (hW : (st.map fun v => v.category).sum ≤ 8) (hsp : SP x M' As I L P (fun v I' L' P' => V x M Q q ls (v.toList ++ st) I' L' P')) : V x M Q pc ls (As.reverse ++ st) I L P := by
  subst hq
  intro p e s m args below meth c hc hk H locs lsA hP hS hl
  have ok : ∀ w ∈ TB, w.before args s = true := fun w hw => hc.2.2.2.2.2.1 w (List.mem_cons_of_mem _ hw)
  exact v_fin (va_runSN (nL := mL M) (Ts := wsM M) (own := (mY M).cls) (As := As) (rest := st) ⟨hc.1, hc.2.1, hc.2.2.2.1, hc.2.2.2.2.1, hc.2.2.2.2.2.1⟩ hsp ⟨va_cnB As.length hc.2.2.2.2.2.1 (gI_M hmc) rfl rfl rfl (hk.2.1 _ hm) (ok _ hmc.2.1) hmc.2.2 (roomOk_spec hroom), ok _ hst, trivial⟩ ⟨PcO_blind _ _ _ _ _, fun U hU hW => ⟨rfl, by rw [hU]; exact hP, hk.warm hW⟩⟩ rfl rfl hl.1 rfl (lv_room hW) d ⟨Nat.le_refl _, Nat.le_refl _⟩) hS (fun v I' L' P' H1 locs1 hq hP1 hS1 => hq p e s m args below meth c hc hk H1 locs1 lsA hP1 hS1 hl)
theorem v_mmax (q : Nat) {a b : Int32} {index : Nat} (r : Int32) (d : decode (mB M) pc = .ok (.invokestatic index, 3)) (hq : pc + 3 = q) (hm : Cond.methodLink (mY M).cls index Lib.Math.max.name ∈ TB) (hroom : 1 ≤ mF M ∧ (st.map fun v => v.category).sum + 13 ≤ mO M) (hr : (if a < b then b else a) = r) (kk : V x M Q q ls (.int r :: st) I L P) : V x M Q pc ls (.int b :: .int a :: st) I L P := by
  subst hq
  subst hr
  intro p e s m args below meth c hc hk H locs lsA hP hS hl
  have ok : ∀ w ∈ TB, w.before args s = true := fun w hw => hc.2.2.2.2.2.1 w (List.mem_cons_of_mem _ hw)
  exact va_mmax hc.1 hc.2.1 (hc.2.2.2.1.trans hl.1.symm) hc.2.2.2.2.1 (ok _ hm) (ok _ sm_J9_max) (ok _ in_Math) (ok _ kc_J9_max) hroom.1 hroom.2 (Nat.zero_le _) (Nat.zero_le _) d (kk p e s m args below meth c hc hk H locs lsA hP hS hl)
theorem v_mmin (q : Nat) {a b : Int32} {index : Nat} (r : Int32) (d : decode (mB M) pc = .ok (.invokestatic index, 3)) (hq : pc + 3 = q) (hm : Cond.methodLink (mY M).cls index Lib.Math.min.name ∈ TB) (hroom : 1 ≤ mF M ∧ (st.map fun v => v.category).sum + 13 ≤ mO M) (hr : (if b < a then b else a) = r) (kk : V x M Q q ls (.int r :: st) I L P) : V x M Q pc ls (.int b :: .int a :: st) I L P := by
  subst hq
  subst hr
  intro p e s m args below meth c hc hk H locs lsA hP hS hl
  have ok : ∀ w ∈ TB, w.before args s = true := fun w hw => hc.2.2.2.2.2.1 w (List.mem_cons_of_mem _ hw)
  exact va_mmin hc.1 hc.2.1 (hc.2.2.2.1.trans hl.1.symm) hc.2.2.2.2.1 (ok _ hm) (ok _ sm_J9_min) (ok _ in_Math) (ok _ kc_J9_min) hroom.1 hroom.2 (Nat.zero_le _) (Nat.zero_le _) d (kk p e s m args below meth c hc hk H locs lsA hP hS hl)
def cpy2 (I : Iv) (i0 i1 sp dp n : Nat) : Iv := fun a b => if a = i1 then (if dp ≤ b ∧ b < dp + n then I i0 (sp + (b - dp)) else I i1 b) else I a b
theorem v_acopy (q : Nat) {i0 i1 n0 n1 sp dp n index : Nat} {jsp jdp jn : Int32} (hi0 : i0 < 54) (hi1 : i1 < 54) (hs0 : hs i0 = (1, n0)) (hs1 : hs i1 = (1, n1)) (d : decode (mB M) pc = .ok (.invokestatic index, 3)) (hq : pc + 3 = q) (hm : Cond.methodLink (mY M).cls index arraycopyName ∈ TB) (hroom : 1 ≤ mF M ∧ (st.map fun v => v.category).sum + (nativeFrameWords "java/lang/System" "arraycopy" 5 + 11) ≤ mO M) (e1 : jsp = nI sp) (e2 : jdp = nI dp) (e3 : jn = nI n) (hb : n0 < 2147483648 ∧ n1 < 2147483648) (h4 : sp + n ≤ n0) (h5 : dp + n ≤ n1) (kk : V x M Q q ls st (cpy2 I i0 i1 sp dp n) L P) : V x M Q pc ls (.int jn :: .int jdp :: rfv x i1 :: .int jsp :: rfv x i0 :: st) I L P := by
  subst hq
  subst e1
  subst e2
  subst e3
  intro p e s m args below meth c hc hk H locs lsA hP hS hl
  have ok : ∀ w ∈ TB, w.before args s = true := fun w hw => hc.2.2.2.2.2.1 w (List.mem_cons_of_mem _ hw)
  have b1 : sp < 2 ^ 31 := by have := hb.1; omega
  have b2 : dp < 2 ^ 31 := by have := hb.2; omega
  have b3 : n < 2 ^ 31 := by have := hb.1; omega
  refine va_copyi hc.1 hc.2.1 (hc.2.2.2.1.trans hl.1.symm) hc.2.2.2.2.1 (ok _ hm) (ok _ na_acopy) (ok _ sm_acopy) (ok _ in_System) hk.1 hP (wl_D _ hk.2.2) hS i0 i1 0 0 (ty := .int) ((wl_get hi0).trans (by rw [cE_i hs0])) ((wl_get hi1).trans (by rw [cE_i hs1])) rfl rfl rfl (nI_pos b1) (nI_pos b2) (nI_pos b3) (by rw [nI_clamp b1, nI_clamp b3]; exact h4) (by rw [nI_clamp b2, nI_clamp b3]; exact h5) (fun _ _ => rfl) hroom.1 hroom.2 d (fun H1 locs1 hP1 _ hS1 => ?_)
  rw [nI_clamp b1, nI_clamp b2, nI_clamp b3, wl_set (E' := cE x (cpy2 I i0 i1 sp dp n) L P) hi1 (by
    rw [cE_i hs1]
    congr 4
    funext z
    simp [cpy2, va_cpy]) (fun j hj => cE_same (by funext z; simp [cpy2, hj]) rfl)] at hP1
  exact kk p e s m args below meth c hc hk H1 locs1 lsA hP1 hS1 hl
theorem v_iushr (q : Nat) {a b : Int32} (r : Int32) (d : decode (mB M) pc = .ok (.iushr, 1)) (hq : pc + 1 = q) (hr : (a.toUInt32 >>> (b.toUInt32 &&& Int32.toUInt32 31)).toInt32 = r) (kk : V x M Q q ls (.int r :: st) I L P) : V x M Q pc ls (.int b :: .int a :: st) I L P := by
  subst hq
  subst hr
  intro p e s m args below meth c hc hk H locs lsA hP hS hl
  exact lv_iushr hc.1 hc.2.1 d rfl (kk p e s m args below meth c hc hk H locs lsA hP hS hl)
theorem v_ldcw (q : Nat) (v : Int32) {index : Nat} (d : decode (mB M) pc = .ok (.ldc_w index, 3)) (hq : pc + 3 = q) (hw : Cond.constant (mY M).cls index v ∈ TB) (kk : V x M Q q ls (.int v :: st) I L P) : V x M Q pc ls st I L P := by
  subst hq
  intro p e s m args below meth c hc hk H locs lsA hP hS hl
  exact lv_ldcw hc.1 hc.2.1 hc.2.2.2.2.1 (hc.2.2.2.2.2.1 _ (List.mem_cons_of_mem _ hw)) d (kk p e s m args below meth c hc hk H locs lsA hP hS hl)
theorem v_tin (q : Nat) {dflt lo hi off : Int} {offs : Array Int} {len : Nat} {a : Int32} (d : decode (mB M) pc = .ok (.tableswitch dflt lo hi offs, len)) (h1 : ¬ a.toInt < lo) (h2 : ¬ hi < a.toInt) (ho : offs[(a.toInt - lo).toNat]? = some off) (ht : (pc : Int) + off = (q : Int)) (kk : V x M Q q ls st I L P) : V x M Q pc ls (.int a :: st) I L P := by
  intro p e s m args below meth c hc hk H locs lsA hP hS hl
  exact lv_tableIn hc.1 hc.2.1 d h1 h2 ho ht (kk p e s m args below meth c hc hk H locs lsA hP hS hl)
theorem v_tout (q : Nat) {dflt lo hi : Int} {offs : Array Int} {len : Nat} {a : Int32} (d : decode (mB M) pc = .ok (.tableswitch dflt lo hi offs, len)) (h : a.toInt < lo ∨ hi < a.toInt) (ht : (pc : Int) + dflt = (q : Int)) (kk : V x M Q q ls st I L P) : V x M Q pc ls (.int a :: st) I L P := by
  intro p e s m args below meth c hc hk H locs lsA hP hS hl
  exact lv_tableOut hc.1 hc.2.1 d h ht (kk p e s m args below meth c hc hk H locs lsA hP hS hl)
end ROWS
end
