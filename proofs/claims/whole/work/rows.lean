section
-- ===== PART A: goes FIRST, ahead of the names: the tables' words, and 'selects' of the private methods out of them =====
/-- a private method of a class that the tables say can be made, by its rows of tables_1 -/
def lw_okq (q : MethodName × Nat) : Prop := (q.1.cls ≠ "java/lang/invoke/MethodHandle" ∧ q.1.cls ≠ "java/lang/invoke/VarHandle") ∧ Cond.instantiable q.1.cls q.2 ∈ tables_1 ∧ Cond.privateMethod q.1 ∈ tables_1 ∧ Cond.instanceMethod q.1 ∈ tables_1
theorem lw_p0 : lw_okq (⟨"RegionRestarts", "startAnew", "()V"⟩, 13) := ⟨⟨by decide +kernel, by decide +kernel⟩, List.mem_of_getElem? (i := 11) (by decide +kernel), List.mem_of_getElem? (i := 239) (by decide +kernel), List.mem_of_getElem? (i := 240) (by decide +kernel)⟩
theorem lw_p1 : lw_okq (⟨"RegionRestarts$Plan", "fillFromSource", "(LRegionRestarts$Task;I)V"⟩, 5) := ⟨⟨by decide +kernel, by decide +kernel⟩, List.mem_of_getElem? (i := 190) (by decide +kernel), List.mem_of_getElem? (i := 356) (by decide +kernel), List.mem_of_getElem? (i := 357) (by decide +kernel)⟩
theorem lw_p2 : lw_okq (⟨"RegionRestarts$Plan", "takesMore", "(LRegionRestarts$Task;)Z"⟩, 5) := ⟨⟨by decide +kernel, by decide +kernel⟩, List.mem_of_getElem? (i := 190) (by decide +kernel), List.mem_of_getElem? (i := 360) (by decide +kernel), List.mem_of_getElem? (i := 361) (by decide +kernel)⟩
theorem lw_p3 : lw_okq (⟨"RegionRestarts$Plan", "add", "(LRegionRestarts$Task;II)V"⟩, 5) := ⟨⟨by decide +kernel, by decide +kernel⟩, List.mem_of_getElem? (i := 190) (by decide +kernel), List.mem_of_getElem? (i := 364) (by decide +kernel), List.mem_of_getElem? (i := 365) (by decide +kernel)⟩
theorem lw_p4 : lw_okq (⟨"RegionRestarts$Plan", "fillFromChannels", "(LRegionRestarts$Graph;I)V"⟩, 5) := ⟨⟨by decide +kernel, by decide +kernel⟩, List.mem_of_getElem? (i := 190) (by decide +kernel), List.mem_of_getElem? (i := 381) (by decide +kernel), List.mem_of_getElem? (i := 382) (by decide +kernel)⟩
theorem lw_p5 : lw_okq (⟨"RegionRestarts$Graph", "isDone", "(II)Z"⟩, 4) := ⟨⟨by decide +kernel, by decide +kernel⟩, List.mem_of_getElem? (i := 19) (by decide +kernel), List.mem_of_getElem? (i := 389) (by decide +kernel), List.mem_of_getElem? (i := 390) (by decide +kernel)⟩
theorem lw_p6 : lw_okq (⟨"RegionRestarts", "failAlone", "(II)I"⟩, 13) := ⟨⟨by decide +kernel, by decide +kernel⟩, List.mem_of_getElem? (i := 11) (by decide +kernel), List.mem_of_getElem? (i := 410) (by decide +kernel), List.mem_of_getElem? (i := 411) (by decide +kernel)⟩
theorem lw_p7 : lw_okq (⟨"RegionRestarts", "blameAll", "(II)I"⟩, 13) := ⟨⟨by decide +kernel, by decide +kernel⟩, List.mem_of_getElem? (i := 11) (by decide +kernel), List.mem_of_getElem? (i := 414) (by decide +kernel), List.mem_of_getElem? (i := 415) (by decide +kernel)⟩
theorem lw_p8 : lw_okq (⟨"RegionRestarts", "beginAgain", "(II)I"⟩, 13) := ⟨⟨by decide +kernel, by decide +kernel⟩, List.mem_of_getElem? (i := 11) (by decide +kernel), List.mem_of_getElem? (i := 424) (by decide +kernel), List.mem_of_getElem? (i := 425) (by decide +kernel)⟩
theorem lw_p9 : lw_okq (⟨"RegionRestarts$Graph", "widened", "(I)I"⟩, 4) := ⟨⟨by decide +kernel, by decide +kernel⟩, List.mem_of_getElem? (i := 19) (by decide +kernel), List.mem_of_getElem? (i := 432) (by decide +kernel), List.mem_of_getElem? (i := 433) (by decide +kernel)⟩
theorem lw_p10 : lw_okq (⟨"RegionRestarts$Graph", "unsteadyIn", "(I)I"⟩, 4) := ⟨⟨by decide +kernel, by decide +kernel⟩, List.mem_of_getElem? (i := 19) (by decide +kernel), List.mem_of_getElem? (i := 436) (by decide +kernel), List.mem_of_getElem? (i := 437) (by decide +kernel)⟩
theorem lw_p11 : lw_okq (⟨"RegionRestarts", "carryOut", "(I)V"⟩, 13) := ⟨⟨by decide +kernel, by decide +kernel⟩, List.mem_of_getElem? (i := 11) (by decide +kernel), List.mem_of_getElem? (i := 474) (by decide +kernel), List.mem_of_getElem? (i := 475) (by decide +kernel)⟩
theorem lw_p12 : lw_okq (⟨"RegionRestarts", "work", "(II)V"⟩, 13) := ⟨⟨by decide +kernel, by decide +kernel⟩, List.mem_of_getElem? (i := 11) (by decide +kernel), List.mem_of_getElem? (i := 487) (by decide +kernel), List.mem_of_getElem? (i := 488) (by decide +kernel)⟩
theorem lw_p13 : lw_okq (⟨"RegionRestarts", "nodesThere", "()I"⟩, 13) := ⟨⟨by decide +kernel, by decide +kernel⟩, List.mem_of_getElem? (i := 11) (by decide +kernel), List.mem_of_getElem? (i := 515) (by decide +kernel), List.mem_of_getElem? (i := 516) (by decide +kernel)⟩
theorem lw_p14 : lw_okq (⟨"RegionRestarts", "moveAway", "(I)V"⟩, 13) := ⟨⟨by decide +kernel, by decide +kernel⟩, List.mem_of_getElem? (i := 11) (by decide +kernel), List.mem_of_getElem? (i := 523) (by decide +kernel), List.mem_of_getElem? (i := 524) (by decide +kernel)⟩
theorem lw_p15 : lw_okq (⟨"RegionRestarts", "emptiestNode", "(I)I"⟩, 13) := ⟨⟨by decide +kernel, by decide +kernel⟩, List.mem_of_getElem? (i := 11) (by decide +kernel), List.mem_of_getElem? (i := 527) (by decide +kernel), List.mem_of_getElem? (i := 528) (by decide +kernel)⟩
def lw_privs_1 : List (MethodName × Nat) := [(⟨"RegionRestarts", "startAnew", "()V"⟩, 13), (⟨"RegionRestarts$Plan", "fillFromSource", "(LRegionRestarts$Task;I)V"⟩, 5), (⟨"RegionRestarts$Plan", "takesMore", "(LRegionRestarts$Task;)Z"⟩, 5), (⟨"RegionRestarts$Plan", "add", "(LRegionRestarts$Task;II)V"⟩, 5), (⟨"RegionRestarts$Plan", "fillFromChannels", "(LRegionRestarts$Graph;I)V"⟩, 5), (⟨"RegionRestarts$Graph", "isDone", "(II)Z"⟩, 4), (⟨"RegionRestarts", "failAlone", "(II)I"⟩, 13), (⟨"RegionRestarts", "blameAll", "(II)I"⟩, 13), (⟨"RegionRestarts", "beginAgain", "(II)I"⟩, 13), (⟨"RegionRestarts$Graph", "widened", "(I)I"⟩, 4), (⟨"RegionRestarts$Graph", "unsteadyIn", "(I)I"⟩, 4), (⟨"RegionRestarts", "carryOut", "(I)V"⟩, 13), (⟨"RegionRestarts", "work", "(II)V"⟩, 13), (⟨"RegionRestarts", "nodesThere", "()I"⟩, 13), (⟨"RegionRestarts", "moveAway", "(I)V"⟩, 13), (⟨"RegionRestarts", "emptiestNode", "(I)I"⟩, 13)]
theorem lw_r1 : ∀ q ∈ lw_privs_1, lw_okq q := List.forall_mem_cons.mpr ⟨lw_p0, List.forall_mem_cons.mpr ⟨lw_p1, List.forall_mem_cons.mpr ⟨lw_p2, List.forall_mem_cons.mpr ⟨lw_p3, List.forall_mem_cons.mpr ⟨lw_p4, List.forall_mem_cons.mpr ⟨lw_p5, List.forall_mem_cons.mpr ⟨lw_p6, List.forall_mem_cons.mpr ⟨lw_p7, List.forall_mem_cons.mpr ⟨lw_p8, List.forall_mem_cons.mpr ⟨lw_p9, List.forall_mem_cons.mpr ⟨lw_p10, List.forall_mem_cons.mpr ⟨lw_p11, List.forall_mem_cons.mpr ⟨lw_p12, List.forall_mem_cons.mpr ⟨lw_p13, List.forall_mem_cons.mpr ⟨lw_p14, List.forall_mem_cons.mpr ⟨lw_p15, fun _ h => absurd h List.not_mem_nil⟩⟩⟩⟩⟩⟩⟩⟩⟩⟩⟩⟩⟩⟩⟩⟩
theorem lw_p16 : lw_okq (⟨"RegionRestartsModel", "begin", "()V"⟩, 51) := ⟨⟨by decide +kernel, by decide +kernel⟩, List.mem_of_getElem? (i := 605) (by decide +kernel), List.mem_of_getElem? (i := 611) (by decide +kernel), List.mem_of_getElem? (i := 612) (by decide +kernel)⟩
theorem lw_p17 : lw_okq (⟨"RegionRestartsModel", "noNode", "(I)Z"⟩, 51) := ⟨⟨by decide +kernel, by decide +kernel⟩, List.mem_of_getElem? (i := 605) (by decide +kernel), List.mem_of_getElem? (i := 773) (by decide +kernel), List.mem_of_getElem? (i := 774) (by decide +kernel)⟩
theorem lw_p18 : lw_okq (⟨"RegionRestartsModel", "noTask", "(I)Z"⟩, 51) := ⟨⟨by decide +kernel, by decide +kernel⟩, List.mem_of_getElem? (i := 605) (by decide +kernel), List.mem_of_getElem? (i := 784) (by decide +kernel), List.mem_of_getElem? (i := 785) (by decide +kernel)⟩
theorem lw_p19 : lw_okq (⟨"RegionRestartsModel", "takeRows", "(I)I"⟩, 51) := ⟨⟨by decide +kernel, by decide +kernel⟩, List.mem_of_getElem? (i := 605) (by decide +kernel), List.mem_of_getElem? (i := 800) (by decide +kernel), List.mem_of_getElem? (i := 801) (by decide +kernel)⟩
theorem lw_p20 : lw_okq (⟨"RegionRestartsModel", "holdAll", "()V"⟩, 51) := ⟨⟨by decide +kernel, by decide +kernel⟩, List.mem_of_getElem? (i := 605) (by decide +kernel), List.mem_of_getElem? (i := 804) (by decide +kernel), List.mem_of_getElem? (i := 805) (by decide +kernel)⟩
theorem lw_p21 : lw_okq (⟨"RegionRestartsModel", "findDone", "()V"⟩, 51) := ⟨⟨by decide +kernel, by decide +kernel⟩, List.mem_of_getElem? (i := 605) (by decide +kernel), List.mem_of_getElem? (i := 808) (by decide +kernel), List.mem_of_getElem? (i := 809) (by decide +kernel)⟩
theorem lw_p22 : lw_okq (⟨"RegionRestartsModel", "nextOf", "(I)I"⟩, 51) := ⟨⟨by decide +kernel, by decide +kernel⟩, List.mem_of_getElem? (i := 605) (by decide +kernel), List.mem_of_getElem? (i := 812) (by decide +kernel), List.mem_of_getElem? (i := 813) (by decide +kernel)⟩
theorem lw_p23 : lw_okq (⟨"RegionRestartsModel", "isOver", "(I)Z"⟩, 51) := ⟨⟨by decide +kernel, by decide +kernel⟩, List.mem_of_getElem? (i := 605) (by decide +kernel), List.mem_of_getElem? (i := 816) (by decide +kernel), List.mem_of_getElem? (i := 817) (by decide +kernel)⟩
theorem lw_p24 : lw_okq (⟨"RegionRestartsModel", "ready", "(I)I"⟩, 51) := ⟨⟨by decide +kernel, by decide +kernel⟩, List.mem_of_getElem? (i := 605) (by decide +kernel), List.mem_of_getElem? (i := 820) (by decide +kernel), List.mem_of_getElem? (i := 821) (by decide +kernel)⟩
theorem lw_p25 : lw_okq (⟨"RegionRestartsModel", "canGive", "(I)Z"⟩, 51) := ⟨⟨by decide +kernel, by decide +kernel⟩, List.mem_of_getElem? (i := 605) (by decide +kernel), List.mem_of_getElem? (i := 824) (by decide +kernel), List.mem_of_getElem? (i := 825) (by decide +kernel)⟩
theorem lw_p26 : lw_okq (⟨"RegionRestartsModel", "valueOf", "(II)I"⟩, 51) := ⟨⟨by decide +kernel, by decide +kernel⟩, List.mem_of_getElem? (i := 605) (by decide +kernel), List.mem_of_getElem? (i := 828) (by decide +kernel), List.mem_of_getElem? (i := 829) (by decide +kernel)⟩
theorem lw_p27 : lw_okq (⟨"RegionRestartsModel", "isAside", "(II)Z"⟩, 51) := ⟨⟨by decide +kernel, by decide +kernel⟩, List.mem_of_getElem? (i := 605) (by decide +kernel), List.mem_of_getElem? (i := 832) (by decide +kernel), List.mem_of_getElem? (i := 833) (by decide +kernel)⟩
theorem lw_p28 : lw_okq (⟨"RegionRestartsModel", "work", "(II)V"⟩, 51) := ⟨⟨by decide +kernel, by decide +kernel⟩, List.mem_of_getElem? (i := 605) (by decide +kernel), List.mem_of_getElem? (i := 836) (by decide +kernel), List.mem_of_getElem? (i := 837) (by decide +kernel)⟩
theorem lw_p29 : lw_okq (⟨"RegionRestartsModel", "give", "(II)V"⟩, 51) := ⟨⟨by decide +kernel, by decide +kernel⟩, List.mem_of_getElem? (i := 605) (by decide +kernel), List.mem_of_getElem? (i := 840) (by decide +kernel), List.mem_of_getElem? (i := 841) (by decide +kernel)⟩
theorem lw_p30 : lw_okq (⟨"RegionRestartsModel", "undoAll", "()V"⟩, 51) := ⟨⟨by decide +kernel, by decide +kernel⟩, List.mem_of_getElem? (i := 605) (by decide +kernel), List.mem_of_getElem? (i := 846) (by decide +kernel), List.mem_of_getElem? (i := 847) (by decide +kernel)⟩
theorem lw_p31 : lw_okq (⟨"RegionRestartsModel", "failOne", "(II)I"⟩, 51) := ⟨⟨by decide +kernel, by decide +kernel⟩, List.mem_of_getElem? (i := 605) (by decide +kernel), List.mem_of_getElem? (i := 850) (by decide +kernel), List.mem_of_getElem? (i := 851) (by decide +kernel)⟩
def lw_privs_2 : List (MethodName × Nat) := [(⟨"RegionRestartsModel", "begin", "()V"⟩, 51), (⟨"RegionRestartsModel", "noNode", "(I)Z"⟩, 51), (⟨"RegionRestartsModel", "noTask", "(I)Z"⟩, 51), (⟨"RegionRestartsModel", "takeRows", "(I)I"⟩, 51), (⟨"RegionRestartsModel", "holdAll", "()V"⟩, 51), (⟨"RegionRestartsModel", "findDone", "()V"⟩, 51), (⟨"RegionRestartsModel", "nextOf", "(I)I"⟩, 51), (⟨"RegionRestartsModel", "isOver", "(I)Z"⟩, 51), (⟨"RegionRestartsModel", "ready", "(I)I"⟩, 51), (⟨"RegionRestartsModel", "canGive", "(I)Z"⟩, 51), (⟨"RegionRestartsModel", "valueOf", "(II)I"⟩, 51), (⟨"RegionRestartsModel", "isAside", "(II)Z"⟩, 51), (⟨"RegionRestartsModel", "work", "(II)V"⟩, 51), (⟨"RegionRestartsModel", "give", "(II)V"⟩, 51), (⟨"RegionRestartsModel", "undoAll", "()V"⟩, 51), (⟨"RegionRestartsModel", "failOne", "(II)I"⟩, 51)]
theorem lw_r2 : ∀ q ∈ lw_privs_2, lw_okq q := List.forall_mem_cons.mpr ⟨lw_p16, List.forall_mem_cons.mpr ⟨lw_p17, List.forall_mem_cons.mpr ⟨lw_p18, List.forall_mem_cons.mpr ⟨lw_p19, List.forall_mem_cons.mpr ⟨lw_p20, List.forall_mem_cons.mpr ⟨lw_p21, List.forall_mem_cons.mpr ⟨lw_p22, List.forall_mem_cons.mpr ⟨lw_p23, List.forall_mem_cons.mpr ⟨lw_p24, List.forall_mem_cons.mpr ⟨lw_p25, List.forall_mem_cons.mpr ⟨lw_p26, List.forall_mem_cons.mpr ⟨lw_p27, List.forall_mem_cons.mpr ⟨lw_p28, List.forall_mem_cons.mpr ⟨lw_p29, List.forall_mem_cons.mpr ⟨lw_p30, List.forall_mem_cons.mpr ⟨lw_p31, fun _ h => absurd h List.not_mem_nil⟩⟩⟩⟩⟩⟩⟩⟩⟩⟩⟩⟩⟩⟩⟩⟩
theorem lw_p32 : lw_okq (⟨"RegionRestartsModel", "blame", "(II)V"⟩, 51) := ⟨⟨by decide +kernel, by decide +kernel⟩, List.mem_of_getElem? (i := 605) (by decide +kernel), List.mem_of_getElem? (i := 854) (by decide +kernel), List.mem_of_getElem? (i := 855) (by decide +kernel)⟩
theorem lw_p33 : lw_okq (⟨"RegionRestartsModel", "noRegion", "()V"⟩, 51) := ⟨⟨by decide +kernel, by decide +kernel⟩, List.mem_of_getElem? (i := 605) (by decide +kernel), List.mem_of_getElem? (i := 858) (by decide +kernel), List.mem_of_getElem? (i := 859) (by decide +kernel)⟩
theorem lw_p34 : lw_okq (⟨"RegionRestartsModel", "grow", "()V"⟩, 51) := ⟨⟨by decide +kernel, by decide +kernel⟩, List.mem_of_getElem? (i := 605) (by decide +kernel), List.mem_of_getElem? (i := 862) (by decide +kernel), List.mem_of_getElem? (i := 863) (by decide +kernel)⟩
theorem lw_p35 : lw_okq (⟨"RegionRestartsModel", "isUnsteady", "(I)Z"⟩, 51) := ⟨⟨by decide +kernel, by decide +kernel⟩, List.mem_of_getElem? (i := 605) (by decide +kernel), List.mem_of_getElem? (i := 866) (by decide +kernel), List.mem_of_getElem? (i := 867) (by decide +kernel)⟩
theorem lw_p36 : lw_okq (⟨"RegionRestartsModel", "beginAgain", "(I)I"⟩, 51) := ⟨⟨by decide +kernel, by decide +kernel⟩, List.mem_of_getElem? (i := 605) (by decide +kernel), List.mem_of_getElem? (i := 870) (by decide +kernel), List.mem_of_getElem? (i := 871) (by decide +kernel)⟩
theorem lw_p37 : lw_okq (⟨"RegionRestartsModel", "nodesThere", "()I"⟩, 51) := ⟨⟨by decide +kernel, by decide +kernel⟩, List.mem_of_getElem? (i := 605) (by decide +kernel), List.mem_of_getElem? (i := 882) (by decide +kernel), List.mem_of_getElem? (i := 883) (by decide +kernel)⟩
theorem lw_p38 : lw_okq (⟨"RegionRestartsModel", "emptiest", "()I"⟩, 51) := ⟨⟨by decide +kernel, by decide +kernel⟩, List.mem_of_getElem? (i := 605) (by decide +kernel), List.mem_of_getElem? (i := 886) (by decide +kernel), List.mem_of_getElem? (i := 887) (by decide +kernel)⟩
theorem lw_p39 : lw_okq (⟨"RegionRestartsModel", "noChannel", "(I)Z"⟩, 51) := ⟨⟨by decide +kernel, by decide +kernel⟩, List.mem_of_getElem? (i := 605) (by decide +kernel), List.mem_of_getElem? (i := 894) (by decide +kernel), List.mem_of_getElem? (i := 895) (by decide +kernel)⟩
theorem lw_p40 : lw_okq (⟨"RegionRestartsModel", "waiting", "()I"⟩, 51) := ⟨⟨by decide +kernel, by decide +kernel⟩, List.mem_of_getElem? (i := 605) (by decide +kernel), List.mem_of_getElem? (i := 907) (by decide +kernel), List.mem_of_getElem? (i := 908) (by decide +kernel)⟩
theorem lw_p41 : lw_okq (⟨"RegionRestartsModel", "doneMany", "()I"⟩, 51) := ⟨⟨by decide +kernel, by decide +kernel⟩, List.mem_of_getElem? (i := 605) (by decide +kernel), List.mem_of_getElem? (i := 943) (by decide +kernel), List.mem_of_getElem? (i := 944) (by decide +kernel)⟩
def lw_privs_3 : List (MethodName × Nat) := [(⟨"RegionRestartsModel", "blame", "(II)V"⟩, 51), (⟨"RegionRestartsModel", "noRegion", "()V"⟩, 51), (⟨"RegionRestartsModel", "grow", "()V"⟩, 51), (⟨"RegionRestartsModel", "isUnsteady", "(I)Z"⟩, 51), (⟨"RegionRestartsModel", "beginAgain", "(I)I"⟩, 51), (⟨"RegionRestartsModel", "nodesThere", "()I"⟩, 51), (⟨"RegionRestartsModel", "emptiest", "()I"⟩, 51), (⟨"RegionRestartsModel", "noChannel", "(I)Z"⟩, 51), (⟨"RegionRestartsModel", "waiting", "()I"⟩, 51), (⟨"RegionRestartsModel", "doneMany", "()I"⟩, 51)]
theorem lw_r3 : ∀ q ∈ lw_privs_3, lw_okq q := List.forall_mem_cons.mpr ⟨lw_p32, List.forall_mem_cons.mpr ⟨lw_p33, List.forall_mem_cons.mpr ⟨lw_p34, List.forall_mem_cons.mpr ⟨lw_p35, List.forall_mem_cons.mpr ⟨lw_p36, List.forall_mem_cons.mpr ⟨lw_p37, List.forall_mem_cons.mpr ⟨lw_p38, List.forall_mem_cons.mpr ⟨lw_p39, List.forall_mem_cons.mpr ⟨lw_p40, List.forall_mem_cons.mpr ⟨lw_p41, fun _ h => absurd h List.not_mem_nil⟩⟩⟩⟩⟩⟩⟩⟩⟩⟩
def lw_privs : List (MethodName × Nat) := lw_privs_1 ++ (lw_privs_2 ++ (lw_privs_3))
def lw_tbl : List Cond := k2_sels lw_privs ++ tables_1
theorem lw_privs_ok : ∀ q ∈ lw_privs, lw_okq q := by
  show ∀ q ∈ lw_privs_1 ++ (lw_privs_2 ++ (lw_privs_3)), lw_okq q
  exact List.forall_mem_append.mpr ⟨lw_r1, List.forall_mem_append.mpr ⟨lw_r2, lw_r3⟩⟩
end
section
/-! ===== BEGIN words of one list among another's, by their places ===== -/
theorem goodIn_r {big : List Cond} (ws : List Cond) (ps : List Nat) (hp : ws = ps.filterMap (fun i => big[i]?)) (h : ws.all goodWord = true) : GoodIn big ws := by
  intro w hw
  have h1 := List.all_eq_true.mp h w hw
  rw [hp] at hw
  obtain ⟨i, -, hi⟩ := List.mem_filterMap.mp hw
  have hm : w ∈ big := by first | exact List.mem_of_getElem? hi | exact List.getElem?_mem hi
  exact ⟨hm, good_of_word h1⟩
theorem goodIn_app {big a b : List Cond} (ha : GoodIn big a) (hb : GoodIn big b) : GoodIn big (a ++ b) := fun w h => (List.mem_append.mp h).elim (ha w) (hb w)
theorem goodIn_ca {big a b : List Cond} {c : Cond} (ha : GoodIn big (c :: a)) (hb : GoodIn big b) : GoodIn big (c :: (a ++ b)) := fun w h => (List.mem_cons.mp h).elim (fun e => ha w (List.mem_cons.mpr (Or.inl e))) (fun h => (List.mem_append.mp h).elim (fun h => ha w (List.mem_cons.mpr (Or.inr h))) (hb w))
theorem goodIn_sub {big ws : List Cond} (hm : ∀ w ∈ ws, w ∈ big) (h : ws.all goodWord = true) : GoodIn big ws := fun w hw => ⟨hm w hw, good_of_word (List.all_eq_true.mp h w hw)⟩
/-! ===== END ===== -/


/-! ===== BEGIN printed: names, fields, word lists, decode rows ===== -/
def RX0 : String := "RegionRestarts$Causes"
def TX0 : u_T := fun k => match k with
  | 0 => ("RegionRestarts$Causes", "tasks", "[I", true)
  | 1 => ("RegionRestarts$Causes", "times", "[I", true)
  | 2 => ("RegionRestarts$Causes", "kinds", "[I", true)
  | _ => ("RegionRestarts$Causes", "count", "I", false)
def tyX0 : Nat → FieldType := fun k => match k with
  | 0 => .array .int
  | 1 => .array .int
  | 2 => .array .int
  | _ => .int
abbrev wsX00 : List Cond := u_ws RX0 TX0 4
abbrev cX0_init : ByteArray := prog_2_method_1_code
def yX0_init : MethodName := ⟨RX0, "<init>", "()V"⟩
abbrev cX0_putDown : ByteArray := prog_2_method_2_code
def yX0_putDown : MethodName := ⟨RX0, "putDown", "(III)V"⟩
def RX1 : String := "RegionRestarts$Channel"
def TX1 : u_T := fun k => match k with
  | 0 => ("RegionRestarts$Channel", "rows", "[I", true)
  | 1 => ("RegionRestarts$Channel", "from", "I", false)
  | 2 => ("RegionRestarts$Channel", "to", "I", false)
  | 3 => ("RegionRestarts$Channel", "isKept", "Z", false)
  | 4 => ("RegionRestarts$Channel", "held", "I", false)
  | 5 => ("RegionRestarts$Channel", "given", "I", false)
  | 6 => ("RegionRestarts$Channel", "taken", "I", false)
  | 7 => ("RegionRestarts$Channel", "seen", "I", false)
  | 8 => ("RegionRestarts$Channel", "lost", "I", false)
  | 9 => ("RegionRestarts$Channel", "markHeld", "I", false)
  | 10 => ("RegionRestarts$Channel", "markGiven", "I", false)
  | _ => ("RegionRestarts$Channel", "markTaken", "I", false)
def tyX1 : Nat → FieldType := fun k => match k with
  | 0 => .array .int
  | 1 => .int
  | 2 => .int
  | 3 => .boolean
  | 4 => .int
  | 5 => .int
  | 6 => .int
  | 7 => .int
  | 8 => .int
  | 9 => .int
  | 10 => .int
  | _ => .int
abbrev wsX10 : List Cond := u_ws RX1 TX1 12
abbrev cX1_init : ByteArray := prog_3_method_1_code
def yX1_init : MethodName := ⟨RX1, "<init>", "()V"⟩
abbrev cX1_set : ByteArray := prog_3_method_2_code
def yX1_set : MethodName := ⟨RX1, "set", "(IIZ)V"⟩
abbrev cX1_keepAsMark : ByteArray := prog_3_method_3_code
def yX1_keepAsMark : MethodName := ⟨RX1, "keepAsMark", "()V"⟩
abbrev cX1_isOverAt : ByteArray := prog_3_method_4_code
def yX1_isOverAt : MethodName := ⟨RX1, "isOverAt", "(II)Z"⟩
abbrev cX1_offersAt : ByteArray := prog_3_method_5_code
def yX1_offersAt : MethodName := ⟨RX1, "offersAt", "(II)Z"⟩
abbrev cX1_takeOne : ByteArray := prog_3_method_6_code
def yX1_takeOne : MethodName := ⟨RX1, "takeOne", "()V"⟩
abbrev cX1_put : ByteArray := prog_3_method_7_code
def yX1_put : MethodName := ⟨RX1, "put", "(I)V"⟩
abbrev cX1_loseBehindMark : ByteArray := prog_3_method_8_code
def yX1_loseBehindMark : MethodName := ⟨RX1, "loseBehindMark", "()V"⟩
abbrev cX1_settled : ByteArray := prog_3_method_9_code
def yX1_settled : MethodName := ⟨RX1, "settled", "()I"⟩
abbrev cX1_rewindGiver : ByteArray := prog_3_method_10_code
def yX1_rewindGiver : MethodName := ⟨RX1, "rewindGiver", "(Z)V"⟩
abbrev cX1_rewindTaker : ByteArray := prog_3_method_11_code
def yX1_rewindTaker : MethodName := ⟨RX1, "rewindTaker", "()V"⟩
def RX2 : String := "RegionRestarts$Graph"
def TX2 : u_T := fun k => match k with
  | 0 => ("RegionRestarts$Graph", "tasks", "[LRegionRestarts$Task;", true)
  | 1 => ("RegionRestarts$Graph", "channels", "[LRegionRestarts$Channel;", true)
  | 2 => ("RegionRestarts$Graph", "taskCount", "I", false)
  | _ => ("RegionRestarts$Graph", "channelCount", "I", false)
def tyX2 : Nat → FieldType := fun k => match k with
  | 0 => .array (.object "RegionRestarts$Task")
  | 1 => .array (.object "RegionRestarts$Channel")
  | 2 => .int
  | _ => .int
abbrev wsX20 : List Cond := u_ws RX2 TX2 4
abbrev cX2_init : ByteArray := prog_4_method_1_code
def yX2_init : MethodName := ⟨RX2, "<init>", "()V"⟩
abbrev cX2_hasTask : ByteArray := prog_4_method_2_code
def yX2_hasTask : MethodName := ⟨RX2, "hasTask", "(I)Z"⟩
abbrev cX2_hasChannel : ByteArray := prog_4_method_3_code
def yX2_hasChannel : MethodName := ⟨RX2, "hasChannel", "(I)Z"⟩
abbrev cX2_addTask : ByteArray := prog_4_method_4_code
def yX2_addTask : MethodName := ⟨RX2, "addTask", "(III)I"⟩
abbrev cX2_addChannel : ByteArray := prog_4_method_5_code
def yX2_addChannel : MethodName := ⟨RX2, "addChannel", "(IIZ)I"⟩
abbrev cX2_tasksOn : ByteArray := prog_4_method_6_code
def yX2_tasksOn : MethodName := ⟨RX2, "tasksOn", "(I)I"⟩
abbrev cX2_countWaiting : ByteArray := prog_4_method_7_code
def yX2_countWaiting : MethodName := ⟨RX2, "countWaiting", "(I)I"⟩
abbrev cX2_doneTasks : ByteArray := prog_4_method_8_code
def yX2_doneTasks : MethodName := ⟨RX2, "doneTasks", "()I"⟩
abbrev cX2_isDone : ByteArray := prog_4_method_9_code
def yX2_isDone : MethodName := ⟨RX2, "isDone", "(II)Z"⟩
abbrev cX2_roomOf : ByteArray := prog_4_method_10_code
def yX2_roomOf : MethodName := ⟨RX2, "roomOf", "(I)I"⟩
abbrev cX2_give : ByteArray := prog_4_method_11_code
def yX2_give : MethodName := ⟨RX2, "give", "(II)V"⟩
abbrev cX2_loseAllFrom : ByteArray := prog_4_method_12_code
def yX2_loseAllFrom : MethodName := ⟨RX2, "loseAllFrom", "(I)V"⟩
abbrev cX2_keepAsMark : ByteArray := prog_4_method_13_code
def yX2_keepAsMark : MethodName := ⟨RX2, "keepAsMark", "()V"⟩
abbrev cX2_regionOf : ByteArray := prog_4_method_14_code
def yX2_regionOf : MethodName := ⟨RX2, "regionOf", "(I)I"⟩
abbrev cX2_widened : ByteArray := prog_4_method_15_code
def yX2_widened : MethodName := ⟨RX2, "widened", "(I)I"⟩
abbrev cX2_unsteadyIn : ByteArray := prog_4_method_16_code
def yX2_unsteadyIn : MethodName := ⟨RX2, "unsteadyIn", "(I)I"⟩
abbrev cX2_rewind : ByteArray := prog_4_method_17_code
def yX2_rewind : MethodName := ⟨RX2, "rewind", "(II)V"⟩
def RX3 : String := "RegionRestarts$Plan"
def TX3 : u_T := fun k => match k with
  | 0 => ("RegionRestarts$Plan", "values", "[I", true)
  | 1 => ("RegionRestarts$Plan", "channels", "[I", true)
  | 2 => ("RegionRestarts$Plan", "count", "I", false)
  | 3 => ("RegionRestarts$Plan", "throwsInstead", "Z", false)
  | _ => ("RegionRestarts$Plan", "room", "I", false)
def tyX3 : Nat → FieldType := fun k => match k with
  | 0 => .array .int
  | 1 => .array .int
  | 2 => .int
  | 3 => .boolean
  | _ => .int
abbrev wsX30 : List Cond := u_ws RX3 TX3 5
abbrev cX3_init : ByteArray := prog_5_method_1_code
def yX3_init : MethodName := ⟨RX3, "<init>", "()V"⟩
abbrev cX3_fill : ByteArray := prog_5_method_2_code
def yX3_fill : MethodName := ⟨RX3, "fill", "(LRegionRestarts$Graph;I)V"⟩
abbrev cX3_fillFromSource : ByteArray := prog_5_method_3_code
def yX3_fillFromSource : MethodName := ⟨RX3, "fillFromSource", "(LRegionRestarts$Task;I)V"⟩
abbrev cX3_fillFromChannels : ByteArray := prog_5_method_4_code
def yX3_fillFromChannels : MethodName := ⟨RX3, "fillFromChannels", "(LRegionRestarts$Graph;I)V"⟩
abbrev cX3_takesMore : ByteArray := prog_5_method_5_code
def yX3_takesMore : MethodName := ⟨RX3, "takesMore", "(LRegionRestarts$Task;)Z"⟩
abbrev cX3_add : ByteArray := prog_5_method_6_code
def yX3_add : MethodName := ⟨RX3, "add", "(LRegionRestarts$Task;II)V"⟩
def RX4 : String := "RegionRestarts$Task"
def TX4 : u_T := fun k => match k with
  | 0 => ("RegionRestarts$Task", "outRows", "[I", true)
  | 1 => ("RegionRestarts$Task", "asideNumbers", "[I", true)
  | 2 => ("RegionRestarts$Task", "sort", "I", false)
  | 3 => ("RegionRestarts$Task", "a", "I", false)
  | 4 => ("RegionRestarts$Task", "node", "I", false)
  | 5 => ("RegionRestarts$Task", "givers", "I", false)
  | 6 => ("RegionRestarts$Task", "poisonValue", "I", false)
  | 7 => ("RegionRestarts$Task", "width", "I", false)
  | 8 => ("RegionRestarts$Task", "fails", "I", false)
  | 9 => ("RegionRestarts$Task", "waitsTill", "I", false)
  | 10 => ("RegionRestarts$Task", "asideCount", "I", false)
  | 11 => ("RegionRestarts$Task", "place", "I", false)
  | 12 => ("RegionRestarts$Task", "sum", "I", false)
  | 13 => ("RegionRestarts$Task", "outCount", "I", false)
  | 14 => ("RegionRestarts$Task", "markPlace", "I", false)
  | 15 => ("RegionRestarts$Task", "markSum", "I", false)
  | _ => ("RegionRestarts$Task", "markOutCount", "I", false)
def tyX4 : Nat → FieldType := fun k => match k with
  | 0 => .array .int
  | 1 => .array .int
  | 2 => .int
  | 3 => .int
  | 4 => .int
  | 5 => .int
  | 6 => .int
  | 7 => .int
  | 8 => .int
  | 9 => .int
  | 10 => .int
  | 11 => .int
  | 12 => .int
  | 13 => .int
  | 14 => .int
  | 15 => .int
  | _ => .int
abbrev wsX40 : List Cond := u_ws RX4 TX4 17
abbrev cX4_init : ByteArray := prog_6_method_1_code
def yX4_init : MethodName := ⟨RX4, "<init>", "()V"⟩
abbrev cX4_set : ByteArray := prog_6_method_2_code
def yX4_set : MethodName := ⟨RX4, "set", "(III)V"⟩
abbrev cX4_keepAsMark : ByteArray := prog_6_method_3_code
def yX4_keepAsMark : MethodName := ⟨RX4, "keepAsMark", "()V"⟩
abbrev cX4_rewind : ByteArray := prog_6_method_4_code
def yX4_rewind : MethodName := ⟨RX4, "rewind", "(I)V"⟩
abbrev cX4_waitsStill : ByteArray := prog_6_method_5_code
def yX4_waitsStill : MethodName := ⟨RX4, "waitsStill", "(I)I"⟩
abbrev cX4_isAside : ByteArray := prog_6_method_6_code
def yX4_isAside : MethodName := ⟨RX4, "isAside", "(I)Z"⟩
abbrev cX4_throwsAt : ByteArray := prog_6_method_7_code
def yX4_throwsAt : MethodName := ⟨RX4, "throwsAt", "(II)Z"⟩
abbrev cX4_givesFor : ByteArray := prog_6_method_8_code
def yX4_givesFor : MethodName := ⟨RX4, "givesFor", "(I)Z"⟩
abbrev cX4_narrowAfterThrow : ByteArray := prog_6_method_9_code
def yX4_narrowAfterThrow : MethodName := ⟨RX4, "narrowAfterThrow", "(Z)V"⟩
abbrev cX4_putOut : ByteArray := prog_6_method_10_code
def yX4_putOut : MethodName := ⟨RX4, "putOut", "(I)V"⟩
def RX5 : String := "RegionRestarts"
def TX5 : u_T := fun k => match k with
  | 0 => ("RegionRestarts", "graph", "LRegionRestarts$Graph;", true)
  | 1 => ("RegionRestarts", "plan", "LRegionRestarts$Plan;", true)
  | 2 => ("RegionRestarts", "causes", "LRegionRestarts$Causes;", true)
  | 3 => ("RegionRestarts", "nodeIsThere", "[Z", true)
  | 4 => ("RegionRestarts", "bound", "I", false)
  | 5 => ("RegionRestarts", "setsAside", "Z", false)
  | 6 => ("RegionRestarts", "time", "I", false)
  | 7 => ("RegionRestarts", "drawn", "J", false)
  | 8 => ("RegionRestarts", "marks", "I", false)
  | 9 => ("RegionRestarts", "steps", "I", false)
  | 10 => ("RegionRestarts", "beginnings", "I", false)
  | 11 => ("RegionRestarts", "stepWasTried", "Z", false)
  | _ => ("RegionRestarts", "ended", "Z", false)
def tyX5 : Nat → FieldType := fun k => match k with
  | 0 => .object "RegionRestarts$Graph"
  | 1 => .object "RegionRestarts$Plan"
  | 2 => .object "RegionRestarts$Causes"
  | 3 => .array .boolean
  | 4 => .int
  | 5 => .boolean
  | 6 => .int
  | 7 => .long
  | 8 => .int
  | 9 => .int
  | 10 => .int
  | 11 => .boolean
  | _ => .boolean
abbrev wsX50 : List Cond := u_ws RX5 TX5 13
abbrev cX5_init : ByteArray := prog_1_method_1_code
def yX5_init : MethodName := ⟨RX5, "<init>", "()V"⟩
abbrev cX5_task : ByteArray := prog_1_method_2_code
def yX5_task : MethodName := ⟨RX5, "task", "(III)I"⟩
abbrev cX5_channel : ByteArray := prog_1_method_3_code
def yX5_channel : MethodName := ⟨RX5, "channel", "(IIZ)I"⟩
abbrev cX5_poison : ByteArray := prog_1_method_4_code
def yX5_poison : MethodName := ⟨RX5, "poison", "(II)I"⟩
abbrev cX5_rule : ByteArray := prog_1_method_5_code
def yX5_rule : MethodName := ⟨RX5, "rule", "(IZ)I"⟩
abbrev cX5_step : ByteArray := prog_1_method_6_code
def yX5_step : MethodName := ⟨RX5, "step", "(I)I"⟩
abbrev cX5_fail : ByteArray := prog_1_method_7_code
def yX5_fail : MethodName := ⟨RX5, "fail", "(I)I"⟩
abbrev cX5_gone : ByteArray := prog_1_method_8_code
def yX5_gone : MethodName := ⟨RX5, "gone", "(I)I"⟩
abbrev cX5_lose : ByteArray := prog_1_method_9_code
def yX5_lose : MethodName := ⟨RX5, "lose", "(I)I"⟩
abbrev cX5_tick : ByteArray := prog_1_method_10_code
def yX5_tick : MethodName := ⟨RX5, "tick", "(I)I"⟩
abbrev cX5_mark : ByteArray := prog_1_method_11_code
def yX5_mark : MethodName := ⟨RX5, "mark", "()I"⟩
abbrev cX5_region : ByteArray := prog_1_method_12_code
def yX5_region : MethodName := ⟨RX5, "region", "(I)I"⟩
abbrev cX5_taskAt : ByteArray := prog_1_method_13_code
def yX5_taskAt : MethodName := ⟨RX5, "taskAt", "(II)I"⟩
abbrev cX5_channelAt : ByteArray := prog_1_method_14_code
def yX5_channelAt : MethodName := ⟨RX5, "channelAt", "(II)I"⟩
abbrev cX5_row : ByteArray := prog_1_method_15_code
def yX5_row : MethodName := ⟨RX5, "row", "(II)I"⟩
abbrev cX5_out : ByteArray := prog_1_method_16_code
def yX5_out : MethodName := ⟨RX5, "out", "(II)I"⟩
abbrev cX5_aside : ByteArray := prog_1_method_17_code
def yX5_aside : MethodName := ⟨RX5, "aside", "(II)I"⟩
abbrev cX5_cause : ByteArray := prog_1_method_18_code
def yX5_cause : MethodName := ⟨RX5, "cause", "(II)I"⟩
abbrev cX5_told : ByteArray := prog_1_method_19_code
def yX5_told : MethodName := ⟨RX5, "told", "(I)I"⟩
abbrev cX5_clear : ByteArray := prog_1_method_20_code
def yX5_clear : MethodName := ⟨RX5, "clear", "()I"⟩
abbrev cX5_startAnew : ByteArray := prog_1_method_21_code
def yX5_startAnew : MethodName := ⟨RX5, "startAnew", "()V"⟩
abbrev cX5_isNode : ByteArray := prog_1_method_22_code
def yX5_isNode : MethodName := ⟨RX5, "isNode", "(I)Z"⟩
abbrev cX5_mayBe : ByteArray := prog_1_method_23_code
def yX5_mayBe : MethodName := ⟨RX5, "mayBe", "(II)Z"⟩
abbrev cX5_isIn : ByteArray := prog_1_method_24_code
def yX5_isIn : MethodName := ⟨RX5, "isIn", "(II)Z"⟩
abbrev cX5_asNumber : ByteArray := prog_1_method_25_code
def yX5_asNumber : MethodName := ⟨RX5, "asNumber", "(Z)I"⟩
abbrev cX5_nodesThere : ByteArray := prog_1_method_26_code
def yX5_nodesThere : MethodName := ⟨RX5, "nodesThere", "()I"⟩
abbrev cX5_carryOut : ByteArray := prog_1_method_27_code
def yX5_carryOut : MethodName := ⟨RX5, "carryOut", "(I)V"⟩
abbrev cX5_work : ByteArray := prog_1_method_28_code
def yX5_work : MethodName := ⟨RX5, "work", "(II)V"⟩
abbrev cX5_failAlone : ByteArray := prog_1_method_29_code
def yX5_failAlone : MethodName := ⟨RX5, "failAlone", "(II)I"⟩
abbrev cX5_blameAll : ByteArray := prog_1_method_30_code
def yX5_blameAll : MethodName := ⟨RX5, "blameAll", "(II)I"⟩
abbrev cX5_beginAgain : ByteArray := prog_1_method_31_code
def yX5_beginAgain : MethodName := ⟨RX5, "beginAgain", "(II)I"⟩
abbrev cX5_waitAfter : ByteArray := prog_1_method_32_code
def yX5_waitAfter : MethodName := ⟨RX5, "waitAfter", "(I)I"⟩
abbrev cX5_moveAway : ByteArray := prog_1_method_33_code
def yX5_moveAway : MethodName := ⟨RX5, "moveAway", "(I)V"⟩
abbrev cX5_emptiestNode : ByteArray := prog_1_method_34_code
def yX5_emptiestNode : MethodName := ⟨RX5, "emptiestNode", "(I)I"⟩
def RX6 : String := "RegionRestartsModel"
def TX6 : u_T := fun k => match k with
  | 0 => ("RegionRestartsModel", "tasks", "I", false)
  | 1 => ("RegionRestartsModel", "sort", "[I", true)
  | 2 => ("RegionRestartsModel", "number", "[I", true)
  | 3 => ("RegionRestartsModel", "node", "[I", true)
  | 4 => ("RegionRestartsModel", "place", "[I", true)
  | 5 => ("RegionRestartsModel", "sum", "[I", true)
  | 6 => ("RegionRestartsModel", "outs", "[I", true)
  | 7 => ("RegionRestartsModel", "out", "[I", true)
  | 8 => ("RegionRestartsModel", "poisons", "[I", true)
  | 9 => ("RegionRestartsModel", "width", "[I", true)
  | 10 => ("RegionRestartsModel", "fails", "[I", true)
  | 11 => ("RegionRestartsModel", "until", "[I", true)
  | 12 => ("RegionRestartsModel", "asides", "[I", true)
  | 13 => ("RegionRestartsModel", "asideRow", "[I", true)
  | 14 => ("RegionRestartsModel", "channels", "I", false)
  | 15 => ("RegionRestartsModel", "from", "[I", true)
  | 16 => ("RegionRestartsModel", "to", "[I", true)
  | 17 => ("RegionRestartsModel", "kept", "[Z", true)
  | 18 => ("RegionRestartsModel", "rows", "[I", true)
  | 19 => ("RegionRestartsModel", "has", "[I", true)
  | 20 => ("RegionRestartsModel", "gave", "[I", true)
  | 21 => ("RegionRestartsModel", "took", "[I", true)
  | 22 => ("RegionRestartsModel", "seen", "[I", true)
  | 23 => ("RegionRestartsModel", "lost", "[Z", true)
  | 24 => ("RegionRestartsModel", "lostTo", "[I", true)
  | 25 => ("RegionRestartsModel", "markPlace", "[I", true)
  | 26 => ("RegionRestartsModel", "markSum", "[I", true)
  | 27 => ("RegionRestartsModel", "markOuts", "[I", true)
  | 28 => ("RegionRestartsModel", "markHas", "[I", true)
  | 29 => ("RegionRestartsModel", "markGave", "[I", true)
  | 30 => ("RegionRestartsModel", "markTook", "[I", true)
  | 31 => ("RegionRestartsModel", "isGone", "[Z", true)
  | 32 => ("RegionRestartsModel", "bound", "I", false)
  | 33 => ("RegionRestartsModel", "setsAside", "Z", false)
  | 34 => ("RegionRestartsModel", "drawn", "I", false)
  | 35 => ("RegionRestartsModel", "time", "I", false)
  | 36 => ("RegionRestartsModel", "steps", "I", false)
  | 37 => ("RegionRestartsModel", "begun", "Z", false)
  | 38 => ("RegionRestartsModel", "marks", "I", false)
  | 39 => ("RegionRestartsModel", "causes", "I", false)
  | 40 => ("RegionRestartsModel", "causeTask", "[I", true)
  | 41 => ("RegionRestartsModel", "causeTime", "[I", true)
  | 42 => ("RegionRestartsModel", "causeWhy", "[I", true)
  | 43 => ("RegionRestartsModel", "ended", "Z", false)
  | 44 => ("RegionRestartsModel", "again", "I", false)
  | 45 => ("RegionRestartsModel", "doneNow", "[Z", true)
  | 46 => ("RegionRestartsModel", "oldHas", "[I", true)
  | 47 => ("RegionRestartsModel", "oldGave", "[I", true)
  | 48 => ("RegionRestartsModel", "oldTook", "[I", true)
  | 49 => ("RegionRestartsModel", "region", "[Z", true)
  | _ => ("RegionRestartsModel", "unsteady", "[Z", true)
def tyX6 : Nat → FieldType := fun k => match k with
  | 0 => .int
  | 1 => .array .int
  | 2 => .array .int
  | 3 => .array .int
  | 4 => .array .int
  | 5 => .array .int
  | 6 => .array .int
  | 7 => .array .int
  | 8 => .array .int
  | 9 => .array .int
  | 10 => .array .int
  | 11 => .array .int
  | 12 => .array .int
  | 13 => .array .int
  | 14 => .int
  | 15 => .array .int
  | 16 => .array .int
  | 17 => .array .boolean
  | 18 => .array .int
  | 19 => .array .int
  | 20 => .array .int
  | 21 => .array .int
  | 22 => .array .int
  | 23 => .array .boolean
  | 24 => .array .int
  | 25 => .array .int
  | 26 => .array .int
  | 27 => .array .int
  | 28 => .array .int
  | 29 => .array .int
  | 30 => .array .int
  | 31 => .array .boolean
  | 32 => .int
  | 33 => .boolean
  | 34 => .int
  | 35 => .int
  | 36 => .int
  | 37 => .boolean
  | 38 => .int
  | 39 => .int
  | 40 => .array .int
  | 41 => .array .int
  | 42 => .array .int
  | 43 => .boolean
  | 44 => .int
  | 45 => .array .boolean
  | 46 => .array .int
  | 47 => .array .int
  | 48 => .array .int
  | 49 => .array .boolean
  | _ => .array .boolean
abbrev wsX60 : List Cond := u_ws RX6 TX6 51
abbrev cX6_init : ByteArray := prog_8_method_1_code
def yX6_init : MethodName := ⟨RX6, "<init>", "()V"⟩
abbrev cX6_in : ByteArray := prog_8_method_2_code
def yX6_in : MethodName := ⟨RX6, "in", "(III)Z"⟩
abbrev cX6_begin : ByteArray := prog_8_method_3_code
def yX6_begin : MethodName := ⟨RX6, "begin", "()V"⟩
abbrev cX6_noTask : ByteArray := prog_8_method_4_code
def yX6_noTask : MethodName := ⟨RX6, "noTask", "(I)Z"⟩
abbrev cX6_noChannel : ByteArray := prog_8_method_5_code
def yX6_noChannel : MethodName := ⟨RX6, "noChannel", "(I)Z"⟩
abbrev cX6_noNode : ByteArray := prog_8_method_6_code
def yX6_noNode : MethodName := ⟨RX6, "noNode", "(I)Z"⟩
abbrev cX6_task : ByteArray := prog_8_method_7_code
def yX6_task : MethodName := ⟨RX6, "task", "(III)I"⟩
abbrev cX6_channel : ByteArray := prog_8_method_8_code
def yX6_channel : MethodName := ⟨RX6, "channel", "(IIZ)I"⟩
abbrev cX6_poison : ByteArray := prog_8_method_9_code
def yX6_poison : MethodName := ⟨RX6, "poison", "(II)I"⟩
abbrev cX6_rule : ByteArray := prog_8_method_10_code
def yX6_rule : MethodName := ⟨RX6, "rule", "(IZ)I"⟩
abbrev cX6_findDone : ByteArray := prog_8_method_11_code
def yX6_findDone : MethodName := ⟨RX6, "findDone", "()V"⟩
abbrev cX6_isOver : ByteArray := prog_8_method_12_code
def yX6_isOver : MethodName := ⟨RX6, "isOver", "(I)Z"⟩
abbrev cX6_ready : ByteArray := prog_8_method_13_code
def yX6_ready : MethodName := ⟨RX6, "ready", "(I)I"⟩
abbrev cX6_isAside : ByteArray := prog_8_method_14_code
def yX6_isAside : MethodName := ⟨RX6, "isAside", "(II)Z"⟩
abbrev cX6_canGive : ByteArray := prog_8_method_15_code
def yX6_canGive : MethodName := ⟨RX6, "canGive", "(I)Z"⟩
abbrev cX6_nextOf : ByteArray := prog_8_method_16_code
def yX6_nextOf : MethodName := ⟨RX6, "nextOf", "(I)I"⟩
abbrev cX6_valueOf : ByteArray := prog_8_method_17_code
def yX6_valueOf : MethodName := ⟨RX6, "valueOf", "(II)I"⟩
abbrev cX6_give : ByteArray := prog_8_method_18_code
def yX6_give : MethodName := ⟨RX6, "give", "(II)V"⟩
abbrev cX6_work : ByteArray := prog_8_method_19_code
def yX6_work : MethodName := ⟨RX6, "work", "(II)V"⟩
abbrev cX6_holdAll : ByteArray := prog_8_method_20_code
def yX6_holdAll : MethodName := ⟨RX6, "holdAll", "()V"⟩
abbrev cX6_undoAll : ByteArray := prog_8_method_21_code
def yX6_undoAll : MethodName := ⟨RX6, "undoAll", "()V"⟩
abbrev cX6_takeRows : ByteArray := prog_8_method_22_code
def yX6_takeRows : MethodName := ⟨RX6, "takeRows", "(I)I"⟩
abbrev cX6_step : ByteArray := prog_8_method_23_code
def yX6_step : MethodName := ⟨RX6, "step", "(I)I"⟩
abbrev cX6_noRegion : ByteArray := prog_8_method_24_code
def yX6_noRegion : MethodName := ⟨RX6, "noRegion", "()V"⟩
abbrev cX6_grow : ByteArray := prog_8_method_25_code
def yX6_grow : MethodName := ⟨RX6, "grow", "()V"⟩
abbrev cX6_isUnsteady : ByteArray := prog_8_method_26_code
def yX6_isUnsteady : MethodName := ⟨RX6, "isUnsteady", "(I)Z"⟩
abbrev cX6_beginAgain : ByteArray := prog_8_method_27_code
def yX6_beginAgain : MethodName := ⟨RX6, "beginAgain", "(I)I"⟩
abbrev cX6_blame : ByteArray := prog_8_method_28_code
def yX6_blame : MethodName := ⟨RX6, "blame", "(II)V"⟩
abbrev cX6_failOne : ByteArray := prog_8_method_29_code
def yX6_failOne : MethodName := ⟨RX6, "failOne", "(II)I"⟩
abbrev cX6_fail : ByteArray := prog_8_method_30_code
def yX6_fail : MethodName := ⟨RX6, "fail", "(I)I"⟩
abbrev cX6_nodesThere : ByteArray := prog_8_method_31_code
def yX6_nodesThere : MethodName := ⟨RX6, "nodesThere", "()I"⟩
abbrev cX6_emptiest : ByteArray := prog_8_method_32_code
def yX6_emptiest : MethodName := ⟨RX6, "emptiest", "()I"⟩
abbrev cX6_gone : ByteArray := prog_8_method_33_code
def yX6_gone : MethodName := ⟨RX6, "gone", "(I)I"⟩
abbrev cX6_lose : ByteArray := prog_8_method_34_code
def yX6_lose : MethodName := ⟨RX6, "lose", "(I)I"⟩
abbrev cX6_tick : ByteArray := prog_8_method_35_code
def yX6_tick : MethodName := ⟨RX6, "tick", "(I)I"⟩
abbrev cX6_waiting : ByteArray := prog_8_method_36_code
def yX6_waiting : MethodName := ⟨RX6, "waiting", "()I"⟩
abbrev cX6_mark : ByteArray := prog_8_method_37_code
def yX6_mark : MethodName := ⟨RX6, "mark", "()I"⟩
abbrev cX6_region : ByteArray := prog_8_method_38_code
def yX6_region : MethodName := ⟨RX6, "region", "(I)I"⟩
abbrev cX6_taskAt : ByteArray := prog_8_method_39_code
def yX6_taskAt : MethodName := ⟨RX6, "taskAt", "(II)I"⟩
abbrev cX6_channelAt : ByteArray := prog_8_method_40_code
def yX6_channelAt : MethodName := ⟨RX6, "channelAt", "(II)I"⟩
abbrev cX6_row : ByteArray := prog_8_method_41_code
def yX6_row : MethodName := ⟨RX6, "row", "(II)I"⟩
abbrev cX6_out : ByteArray := prog_8_method_42_code
def yX6_out : MethodName := ⟨RX6, "out", "(II)I"⟩
abbrev cX6_aside : ByteArray := prog_8_method_43_code
def yX6_aside : MethodName := ⟨RX6, "aside", "(II)I"⟩
abbrev cX6_cause : ByteArray := prog_8_method_44_code
def yX6_cause : MethodName := ⟨RX6, "cause", "(II)I"⟩
abbrev cX6_doneMany : ByteArray := prog_8_method_45_code
def yX6_doneMany : MethodName := ⟨RX6, "doneMany", "()I"⟩
abbrev cX6_told : ByteArray := prog_8_method_46_code
def yX6_told : MethodName := ⟨RX6, "told", "(I)I"⟩
abbrev cX6_clear : ByteArray := prog_8_method_47_code
def yX6_clear : MethodName := ⟨RX6, "clear", "()I"⟩
def RJ6 : String := "java/lang/Integer"
def TJ6 : u_T := fun k => match k with
  | _ => ("", "", "", false)
def tyJ6 : Nat → FieldType := fun k => match k with
  | _ => .int
abbrev wsJ60 : List Cond := u_ws RJ6 TJ6 0
theorem nmJ6 : ∀ a, a < 0 → ∀ b, b < 0 → a ≠ b → (TJ6 a).2.1 ≠ (TJ6 b).2.1 := by decide +kernel
theorem tyJ6_ok : ∀ k, k < 0 → parseFieldDescriptor (TJ6 k).2.2.1 = some (tyJ6 k) := by decide +kernel
abbrev cJ6_bitCount_0f7a4 : ByteArray := prog_9_method_49_code
def yJ6_bitCount_0f7a4 : MethodName := ⟨RJ6, "bitCount", "(I)I"⟩
def RJ9 : String := "java/lang/Math"
def TJ9 : u_T := fun k => match k with
  | _ => ("", "", "", false)
def tyJ9 : Nat → FieldType := fun k => match k with
  | _ => .int
abbrev wsJ90 : List Cond := u_ws RJ9 TJ9 0
theorem nmJ9 : ∀ a, a < 0 → ∀ b, b < 0 → a ≠ b → (TJ9 a).2.1 ≠ (TJ9 b).2.1 := by decide +kernel
theorem tyJ9_ok : ∀ k, k < 0 → parseFieldDescriptor (TJ9 k).2.2.1 = some (tyJ9 k) := by decide +kernel
abbrev cJ9_max_7cf53 : ByteArray := prog_10_method_65_code
def yJ9_max_7cf53 : MethodName := ⟨RJ9, "max", "(II)I"⟩
abbrev cJ9_min_7cf53 : ByteArray := prog_10_method_69_code
def yJ9_min_7cf53 : MethodName := ⟨RJ9, "min", "(II)I"⟩
def RL : String := "RegionRestartsLaw"
abbrev cL_law : ByteArray := code
def yL_law : MethodName := ⟨RL, "law", "([I)Z"⟩
def wsL_law_r1 : List Cond := [Cond.classLink RL 7 RX5, Cond.instantiable RX5 13, Cond.initialized RX5, Cond.classLink RL 10 RX6, Cond.instantiable RX6 51, Cond.initialized RX6, Cond.methodLink RL 9 yX5_init, Cond.instanceMethod yX5_init, Cond.code yX5_init cX5_init 1 none, Cond.methodLink RX5 1 objectInit, Cond.instanceMethod objectInit, Cond.code objectInit ⟨#[0xb1]⟩ 1 none, Cond.classLink RX5 7 RX2, Cond.instantiable RX2 4, Cond.initialized RX2, Cond.fieldLink RX5 10 "RegionRestarts" "graph" "LRegionRestarts$Graph;", Cond.classLink RX5 16 RX3, Cond.instantiable RX3 5, Cond.initialized RX3, Cond.fieldLink RX5 19 "RegionRestarts" "plan" "LRegionRestarts$Plan;", Cond.classLink RX5 23 RX0, Cond.instantiable RX0 4, Cond.initialized RX0, Cond.fieldLink RX5 26 "RegionRestarts" "causes" "LRegionRestarts$Causes;"]
def wsL_law_r2 : List Cond := [Cond.arrayClass .boolean, Cond.fieldLink RX5 30 "RegionRestarts" "nodeIsThere" "[Z", Cond.methodLink RX5 9 yX2_init, Cond.instanceMethod yX2_init, Cond.code yX2_init cX2_init 2 none, Cond.methodLink RX2 3 objectInit, Cond.classLink RX2 9 RX4, Cond.fieldLink RX2 11 "RegionRestarts$Graph" "tasks" "[LRegionRestarts$Task;", Cond.classLink RX2 17 RX1, Cond.fieldLink RX2 19 "RegionRestarts$Graph" "channels" "[LRegionRestarts$Channel;", Cond.instantiable RX4 17, Cond.initialized RX4, Cond.instantiable RX1 12, Cond.initialized RX1, Cond.instanceMethod yX4_init, Cond.code yX4_init cX4_init 1 none, Cond.methodLink RX4 3 objectInit, Cond.arrayClass .int, Cond.fieldLink RX4 9 "RegionRestarts$Task" "outRows" "[I", Cond.fieldLink RX4 15 "RegionRestarts$Task" "asideNumbers" "[I", Cond.instanceMethod yX1_init, Cond.code yX1_init cX1_init 1 none, Cond.methodLink RX1 3 objectInit, Cond.fieldLink RX1 9 "RegionRestarts$Channel" "rows" "[I"]
def wsL_law_r3 : List Cond := [Cond.instanceMethod yX3_init, Cond.code yX3_init cX3_init 1 none, Cond.methodLink RX3 3 objectInit, Cond.fieldLink RX3 9 "RegionRestarts$Plan" "values" "[I", Cond.fieldLink RX3 15 "RegionRestarts$Plan" "channels" "[I", Cond.instanceMethod yX0_init, Cond.code yX0_init cX0_init 1 none, Cond.methodLink RX0 3 objectInit, Cond.fieldLink RX0 9 "RegionRestarts$Causes" "tasks" "[I", Cond.fieldLink RX0 15 "RegionRestarts$Causes" "times" "[I", Cond.fieldLink RX0 18 "RegionRestarts$Causes" "kinds" "[I", Cond.methodLink RX5 34 yX5_startAnew, Cond.instanceMethod yX5_startAnew, Cond.selects RX5 yX5_startAnew yX5_startAnew, Cond.code yX5_startAnew cX5_startAnew 2 none, Cond.fieldLink RX5 49 "RegionRestarts$Graph" "taskCount" "I", Cond.fieldLink RX5 69 "RegionRestarts$Graph" "channelCount" "I", Cond.fieldLink RX5 237 "RegionRestarts$Causes" "count" "I", Cond.fieldLink RX5 79 "RegionRestarts" "bound" "I", Cond.fieldLink RX5 82 "RegionRestarts" "setsAside" "Z", Cond.fieldLink RX5 88 "RegionRestarts" "time" "I", Cond.fieldLink RX5 254 "RegionRestarts" "drawn" "J", Cond.fieldLink RX5 178 "RegionRestarts" "marks" "I", Cond.fieldLink RX5 110 "RegionRestarts" "steps" "I"]
def wsL_law_r4 : List Cond := [Cond.fieldLink RX5 251 "RegionRestarts" "beginnings" "I", Cond.fieldLink RX5 45 "RegionRestarts" "stepWasTried" "Z", Cond.fieldLink RX5 85 "RegionRestarts" "ended" "Z", Cond.methodLink RL 12 yX6_init, Cond.instanceMethod yX6_init, Cond.code yX6_init cX6_init 1 none, Cond.methodLink RX6 1 objectInit, Cond.fieldLink RX6 7 "RegionRestartsModel" "sort" "[I", Cond.fieldLink RX6 13 "RegionRestartsModel" "number" "[I", Cond.fieldLink RX6 16 "RegionRestartsModel" "node" "[I", Cond.fieldLink RX6 19 "RegionRestartsModel" "place" "[I", Cond.fieldLink RX6 22 "RegionRestartsModel" "sum" "[I", Cond.fieldLink RX6 25 "RegionRestartsModel" "outs" "[I", Cond.fieldLink RX6 28 "RegionRestartsModel" "out" "[I", Cond.fieldLink RX6 31 "RegionRestartsModel" "poisons" "[I", Cond.fieldLink RX6 34 "RegionRestartsModel" "width" "[I", Cond.fieldLink RX6 37 "RegionRestartsModel" "fails" "[I", Cond.fieldLink RX6 40 "RegionRestartsModel" "until" "[I", Cond.fieldLink RX6 43 "RegionRestartsModel" "asides" "[I", Cond.fieldLink RX6 46 "RegionRestartsModel" "asideRow" "[I", Cond.fieldLink RX6 49 "RegionRestartsModel" "from" "[I", Cond.fieldLink RX6 52 "RegionRestartsModel" "to" "[I", Cond.fieldLink RX6 55 "RegionRestartsModel" "kept" "[Z", Cond.fieldLink RX6 59 "RegionRestartsModel" "rows" "[I"]
def wsL_law_r5 : List Cond := [Cond.fieldLink RX6 62 "RegionRestartsModel" "has" "[I", Cond.fieldLink RX6 65 "RegionRestartsModel" "gave" "[I", Cond.fieldLink RX6 68 "RegionRestartsModel" "took" "[I", Cond.fieldLink RX6 71 "RegionRestartsModel" "seen" "[I", Cond.fieldLink RX6 74 "RegionRestartsModel" "lost" "[Z", Cond.fieldLink RX6 77 "RegionRestartsModel" "lostTo" "[I", Cond.fieldLink RX6 80 "RegionRestartsModel" "markPlace" "[I", Cond.fieldLink RX6 83 "RegionRestartsModel" "markSum" "[I", Cond.fieldLink RX6 86 "RegionRestartsModel" "markOuts" "[I", Cond.fieldLink RX6 89 "RegionRestartsModel" "markHas" "[I", Cond.fieldLink RX6 92 "RegionRestartsModel" "markGave" "[I", Cond.fieldLink RX6 95 "RegionRestartsModel" "markTook" "[I", Cond.fieldLink RX6 98 "RegionRestartsModel" "isGone" "[Z", Cond.fieldLink RX6 101 "RegionRestartsModel" "causeTask" "[I", Cond.fieldLink RX6 104 "RegionRestartsModel" "causeTime" "[I", Cond.fieldLink RX6 107 "RegionRestartsModel" "causeWhy" "[I", Cond.fieldLink RX6 110 "RegionRestartsModel" "doneNow" "[Z", Cond.fieldLink RX6 113 "RegionRestartsModel" "oldHas" "[I", Cond.fieldLink RX6 116 "RegionRestartsModel" "oldGave" "[I", Cond.fieldLink RX6 119 "RegionRestartsModel" "oldTook" "[I", Cond.fieldLink RX6 122 "RegionRestartsModel" "region" "[Z", Cond.fieldLink RX6 125 "RegionRestartsModel" "unsteady" "[Z", Cond.methodLink RX6 128 yX6_begin, Cond.instanceMethod yX6_begin]
def wsL_law_r6 : List Cond := [Cond.selects RX6 yX6_begin yX6_begin, Cond.code yX6_begin cX6_begin 2 none, Cond.fieldLink RX6 131 "RegionRestartsModel" "tasks" "I", Cond.fieldLink RX6 135 "RegionRestartsModel" "channels" "I", Cond.fieldLink RX6 138 "RegionRestartsModel" "bound" "I", Cond.fieldLink RX6 141 "RegionRestartsModel" "setsAside" "Z", Cond.fieldLink RX6 145 "RegionRestartsModel" "drawn" "I", Cond.fieldLink RX6 148 "RegionRestartsModel" "time" "I", Cond.fieldLink RX6 151 "RegionRestartsModel" "steps" "I", Cond.fieldLink RX6 154 "RegionRestartsModel" "begun" "Z", Cond.fieldLink RX6 157 "RegionRestartsModel" "marks" "I", Cond.fieldLink RX6 160 "RegionRestartsModel" "causes" "I", Cond.fieldLink RX6 163 "RegionRestartsModel" "ended" "Z", Cond.fieldLink RX6 166 "RegionRestartsModel" "again" "I", Cond.methodLink RL 13 yX5_task, Cond.instanceMethod yX5_task, Cond.selects RX5 yX5_task yX5_task, Cond.code yX5_task cX5_task 4 (some .int), Cond.methodLink RX5 37 yX5_isNode, Cond.static yX5_isNode, Cond.code yX5_isNode cX5_isNode 1 (some .boolean), Cond.methodLink RX5 41 yX5_mayBe, Cond.static yX5_mayBe, Cond.code yX5_mayBe cX5_mayBe 2 (some .boolean)]
def wsL_law_r7 : List Cond := [Cond.methodLink RX5 53 yX2_addTask, Cond.instanceMethod yX2_addTask, Cond.selects RX2 yX2_addTask yX2_addTask, Cond.code yX2_addTask cX2_addTask 4 (some .int), Cond.fieldLink RX2 25 "RegionRestarts$Graph" "taskCount" "I", Cond.methodLink RX2 32 yX4_set, Cond.instanceMethod yX4_set, Cond.selects RX4 yX4_set yX4_set, Cond.code yX4_set cX4_set 4 none, Cond.fieldLink RX4 18 "RegionRestarts$Task" "sort" "I", Cond.fieldLink RX4 22 "RegionRestarts$Task" "a" "I", Cond.fieldLink RX4 25 "RegionRestarts$Task" "node" "I", Cond.fieldLink RX4 28 "RegionRestarts$Task" "givers" "I", Cond.fieldLink RX4 31 "RegionRestarts$Task" "poisonValue" "I", Cond.fieldLink RX4 34 "RegionRestarts$Task" "width" "I", Cond.fieldLink RX4 37 "RegionRestarts$Task" "fails" "I", Cond.fieldLink RX4 40 "RegionRestarts$Task" "waitsTill" "I", Cond.fieldLink RX4 43 "RegionRestarts$Task" "asideCount" "I", Cond.fieldLink RX4 46 "RegionRestarts$Task" "place" "I", Cond.fieldLink RX4 49 "RegionRestarts$Task" "sum" "I", Cond.fieldLink RX4 52 "RegionRestarts$Task" "outCount" "I", Cond.methodLink RX4 55 yX4_keepAsMark, Cond.instanceMethod yX4_keepAsMark, Cond.selects RX4 yX4_keepAsMark yX4_keepAsMark]
def wsL_law_r8 : List Cond := [Cond.code yX4_keepAsMark cX4_keepAsMark 1 none, Cond.fieldLink RX4 58 "RegionRestarts$Task" "markPlace" "I", Cond.fieldLink RX4 61 "RegionRestarts$Task" "markSum" "I", Cond.fieldLink RX4 64 "RegionRestarts$Task" "markOutCount" "I", Cond.methodLink RL 17 yX6_task, Cond.instanceMethod yX6_task, Cond.selects RX6 yX6_task yX6_task, Cond.code yX6_task cX6_task 6 (some .int), Cond.methodLink RX6 173 yX6_noNode, Cond.instanceMethod yX6_noNode, Cond.selects RX6 yX6_noNode yX6_noNode, Cond.code yX6_noNode cX6_noNode 2 (some .boolean), Cond.methodLink RX6 169 yX6_in, Cond.static yX6_in, Cond.code yX6_in cX6_in 3 (some .boolean), Cond.methodLink RL 18 yX5_channel, Cond.instanceMethod yX5_channel, Cond.selects RX5 yX5_channel yX5_channel, Cond.code yX5_channel cX5_channel 4 (some .int), Cond.fieldLink RX5 60 "RegionRestarts$Graph" "tasks" "[LRegionRestarts$Task;", Cond.fieldLink RX5 64 "RegionRestarts$Task" "sort" "I", Cond.methodLink RX5 57 yX2_hasTask, Cond.instanceMethod yX2_hasTask, Cond.selects RX2 yX2_hasTask yX2_hasTask]
def wsL_law_r9 : List Cond := [Cond.code yX2_hasTask cX2_hasTask 2 (some .boolean), Cond.methodLink RX5 72 yX2_addChannel, Cond.instanceMethod yX2_addChannel, Cond.selects RX2 yX2_addChannel yX2_addChannel, Cond.code yX2_addChannel cX2_addChannel 4 (some .int), Cond.fieldLink RX2 29 "RegionRestarts$Graph" "channelCount" "I", Cond.fieldLink RX2 39 "RegionRestarts$Task" "givers" "I", Cond.methodLink RX2 36 yX1_set, Cond.instanceMethod yX1_set, Cond.selects RX1 yX1_set yX1_set, Cond.code yX1_set cX1_set 4 none, Cond.fieldLink RX1 15 "RegionRestarts$Channel" "from" "I", Cond.fieldLink RX1 19 "RegionRestarts$Channel" "to" "I", Cond.fieldLink RX1 22 "RegionRestarts$Channel" "isKept" "Z", Cond.fieldLink RX1 26 "RegionRestarts$Channel" "held" "I", Cond.fieldLink RX1 29 "RegionRestarts$Channel" "given" "I", Cond.fieldLink RX1 32 "RegionRestarts$Channel" "taken" "I", Cond.fieldLink RX1 35 "RegionRestarts$Channel" "seen" "I", Cond.methodLink RX1 38 yX1_keepAsMark, Cond.instanceMethod yX1_keepAsMark, Cond.selects RX1 yX1_keepAsMark yX1_keepAsMark, Cond.code yX1_keepAsMark cX1_keepAsMark 1 none, Cond.fieldLink RX1 41 "RegionRestarts$Channel" "markHeld" "I", Cond.fieldLink RX1 44 "RegionRestarts$Channel" "markGiven" "I"]
def wsL_law_r10 : List Cond := [Cond.fieldLink RX1 47 "RegionRestarts$Channel" "markTaken" "I", Cond.fieldLink RX1 50 "RegionRestarts$Channel" "lost" "I", Cond.methodLink RL 22 yX6_channel, Cond.instanceMethod yX6_channel, Cond.selects RX6 yX6_channel yX6_channel, Cond.code yX6_channel cX6_channel 5 (some .int), Cond.methodLink RX6 177 yX6_noTask, Cond.instanceMethod yX6_noTask, Cond.selects RX6 yX6_noTask yX6_noTask, Cond.code yX6_noTask cX6_noTask 2 (some .boolean), Cond.methodLink RL 23 yX5_poison, Cond.instanceMethod yX5_poison, Cond.selects RX5 yX5_poison yX5_poison, Cond.code yX5_poison cX5_poison 4 (some .int), Cond.fieldLink RX5 76 "RegionRestarts$Task" "poisonValue" "I", Cond.methodLink RL 27 yX6_poison, Cond.instanceMethod yX6_poison, Cond.selects RX6 yX6_poison yX6_poison, Cond.code yX6_poison cX6_poison 4 (some .int), Cond.methodLink RL 28 yX5_rule, Cond.instanceMethod yX5_rule, Cond.selects RX5 yX5_rule yX5_rule, Cond.code yX5_rule cX5_rule 4 (some .int), Cond.methodLink RL 32 yX6_rule]
def wsL_law_r11 : List Cond := [Cond.instanceMethod yX6_rule, Cond.selects RX6 yX6_rule yX6_rule, Cond.code yX6_rule cX6_rule 4 (some .int), Cond.methodLink RL 33 yX5_step, Cond.instanceMethod yX5_step, Cond.selects RX5 yX5_step yX5_step, Cond.code yX5_step cX5_step 2 (some .int), Cond.fieldLink RX5 99 "RegionRestarts$Plan" "throwsInstead" "Z", Cond.fieldLink RX5 117 "RegionRestarts$Plan" "count" "I", Cond.methodLink RX5 91 yX4_waitsStill, Cond.instanceMethod yX4_waitsStill, Cond.selects RX4 yX4_waitsStill yX4_waitsStill, Cond.code yX4_waitsStill cX4_waitsStill 2 (some .int), Cond.methodLink RX4 67 Lib.Math.max.name, Cond.static Lib.Math.max.name, Cond.initialized "java/lang/Math", Cond.code Lib.Math.max.name Lib.Math.max.code 2 (some .int), Cond.methodLink RX5 95 yX3_fill, Cond.instanceMethod yX3_fill, Cond.selects RX3 yX3_fill yX3_fill, Cond.code yX3_fill cX3_fill 3 none, Cond.fieldLink RX3 18 "RegionRestarts$Plan" "count" "I", Cond.fieldLink RX3 22 "RegionRestarts$Plan" "throwsInstead" "Z", Cond.fieldLink RX3 32 "RegionRestarts$Plan" "room" "I"]
def wsL_law_r12 : List Cond := [Cond.fieldLink RX3 35 "RegionRestarts$Graph" "tasks" "[LRegionRestarts$Task;", Cond.fieldLink RX3 39 "RegionRestarts$Task" "sort" "I", Cond.methodLink RX3 26 yX2_roomOf, Cond.instanceMethod yX2_roomOf, Cond.selects RX2 yX2_roomOf yX2_roomOf, Cond.code yX2_roomOf cX2_roomOf 4 (some .int), Cond.fieldLink RX2 53 "RegionRestarts$Task" "sort" "I", Cond.fieldLink RX2 71 "RegionRestarts$Task" "outCount" "I", Cond.fieldLink RX2 74 "RegionRestarts$Channel" "from" "I", Cond.fieldLink RX2 77 "RegionRestarts$Channel" "given" "I", Cond.methodLink RX2 80 Lib.Math.min.name, Cond.static Lib.Math.min.name, Cond.code Lib.Math.min.name Lib.Math.min.code 2 (some .int), Cond.methodLink RX3 44 yX3_fillFromSource, Cond.instanceMethod yX3_fillFromSource, Cond.selects RX3 yX3_fillFromSource yX3_fillFromSource, Cond.code yX3_fillFromSource cX3_fillFromSource 4 none, Cond.fieldLink RX3 52 "RegionRestarts$Task" "place" "I", Cond.fieldLink RX3 55 "RegionRestarts$Task" "a" "I", Cond.methodLink RX3 58 yX3_takesMore, Cond.instanceMethod yX3_takesMore, Cond.selects RX3 yX3_takesMore yX3_takesMore, Cond.code yX3_takesMore cX3_takesMore 2 (some .boolean), Cond.fieldLink RX3 94 "RegionRestarts$Task" "width" "I"]
def wsL_law_r13 : List Cond := [Cond.methodLink RX3 62 yX3_add, Cond.instanceMethod yX3_add, Cond.selects RX3 yX3_add yX3_add, Cond.code yX3_add cX3_add 5 none, Cond.methodLink RX3 97 yX4_throwsAt, Cond.instanceMethod yX4_throwsAt, Cond.selects RX4 yX4_throwsAt yX4_throwsAt, Cond.code yX4_throwsAt cX4_throwsAt 3 (some .boolean), Cond.methodLink RX4 73 yX4_isAside, Cond.instanceMethod yX4_isAside, Cond.selects RX4 yX4_isAside yX4_isAside, Cond.code yX4_isAside cX4_isAside 3 (some .boolean), Cond.methodLink RX3 100 yX4_isAside, Cond.methodLink RX3 104 yX4_givesFor, Cond.instanceMethod yX4_givesFor, Cond.selects RX4 yX4_givesFor yX4_givesFor, Cond.code yX4_givesFor cX4_givesFor 2 (some .boolean), Cond.methodLink RX3 48 yX3_fillFromChannels, Cond.instanceMethod yX3_fillFromChannels, Cond.selects RX3 yX3_fillFromChannels yX3_fillFromChannels, Cond.code yX3_fillFromChannels cX3_fillFromChannels 8 none, Cond.fieldLink RX3 70 "RegionRestarts$Graph" "channelCount" "I", Cond.fieldLink RX3 73 "RegionRestarts$Graph" "channels" "[LRegionRestarts$Channel;", Cond.fieldLink RX3 76 "RegionRestarts$Channel" "to" "I"]
def wsL_law_r14 : List Cond := [Cond.fieldLink RX3 81 "RegionRestarts$Channel" "taken" "I", Cond.fieldLink RX3 88 "RegionRestarts$Channel" "rows" "[I", Cond.methodLink RX3 66 yX2_doneTasks, Cond.instanceMethod yX2_doneTasks, Cond.selects RX2 yX2_doneTasks yX2_doneTasks, Cond.code yX2_doneTasks cX2_doneTasks 3 (some .int), Cond.methodLink RX2 49 yX2_isDone, Cond.instanceMethod yX2_isDone, Cond.selects RX2 yX2_isDone yX2_isDone, Cond.code yX2_isDone cX2_isDone 5 (some .boolean), Cond.fieldLink RX2 56 "RegionRestarts$Task" "place" "I", Cond.fieldLink RX2 59 "RegionRestarts$Task" "a" "I", Cond.fieldLink RX2 62 "RegionRestarts$Channel" "to" "I", Cond.fieldLink RX2 65 "RegionRestarts$Channel" "taken" "I", Cond.methodLink RX2 68 yX1_isOverAt, Cond.instanceMethod yX1_isOverAt, Cond.selects RX1 yX1_isOverAt yX1_isOverAt, Cond.code yX1_isOverAt cX1_isOverAt 3 (some .boolean), Cond.static yX5_isIn, Cond.code yX5_isIn cX5_isIn 2 (some .boolean), Cond.methodLink RX3 84 yX1_offersAt, Cond.instanceMethod yX1_offersAt, Cond.selects RX1 yX1_offersAt yX1_offersAt, Cond.code yX1_offersAt cX1_offersAt 3 (some .boolean)]
def wsL_law_r15 : List Cond := [Cond.methodLink RX1 57 yX1_isOverAt, Cond.methodLink RX3 91 yX1_isOverAt, Cond.methodLink RX5 102 yX4_narrowAfterThrow, Cond.instanceMethod yX4_narrowAfterThrow, Cond.selects RX4 yX4_narrowAfterThrow yX4_narrowAfterThrow, Cond.code yX4_narrowAfterThrow cX4_narrowAfterThrow 2 none, Cond.methodLink RX5 106 yX5_failAlone, Cond.instanceMethod yX5_failAlone, Cond.selects RX5 yX5_failAlone yX5_failAlone, Cond.code yX5_failAlone cX5_failAlone 4 (some .int), Cond.methodLink RX5 127 yX5_blameAll, Cond.instanceMethod yX5_blameAll, Cond.selects RX5 yX5_blameAll yX5_blameAll, Cond.code yX5_blameAll cX5_blameAll 5 (some .int), Cond.fieldLink RX5 196 "RegionRestarts$Task" "fails" "I", Cond.methodLink RX5 295 Lib.Math.max.name, Cond.methodLink RX5 202 yX5_isIn, Cond.methodLink RX5 291 yX0_putDown, Cond.instanceMethod yX0_putDown, Cond.selects RX0 yX0_putDown yX0_putDown, Cond.code yX0_putDown cX0_putDown 4 none, Cond.fieldLink RX0 21 "RegionRestarts$Causes" "count" "I", Cond.methodLink RX5 136 yX5_beginAgain, Cond.instanceMethod yX5_beginAgain]
def wsL_law_r16 : List Cond := [Cond.selects RX5 yX5_beginAgain yX5_beginAgain, Cond.code yX5_beginAgain cX5_beginAgain 5 (some .int), Cond.methodLink RX5 181 yX2_regionOf, Cond.instanceMethod yX2_regionOf, Cond.selects RX2 yX2_regionOf yX2_regionOf, Cond.code yX2_regionOf cX2_regionOf 5 (some .int), Cond.methodLink RX2 104 yX2_widened, Cond.instanceMethod yX2_widened, Cond.selects RX2 yX2_widened yX2_widened, Cond.code yX2_widened cX2_widened 7 (some .int), Cond.fieldLink RX2 110 "RegionRestarts$Channel" "seen" "I", Cond.fieldLink RX2 90 "RegionRestarts$Channel" "isKept" "Z", Cond.fieldLink RX2 117 "RegionRestarts$Channel" "lost" "I", Cond.methodLink RX2 107 yX2_unsteadyIn, Cond.instanceMethod yX2_unsteadyIn, Cond.selects RX2 yX2_unsteadyIn yX2_unsteadyIn, Cond.code yX2_unsteadyIn cX2_unsteadyIn 4 (some .int), Cond.methodLink RX2 113 yX1_settled, Cond.instanceMethod yX1_settled, Cond.selects RX1 yX1_settled yX1_settled, Cond.code yX1_settled cX1_settled 1 (some .int), Cond.methodLink RX1 60 Lib.Math.max.name, Cond.methodLink RX5 298 yX5_waitAfter, Cond.static yX5_waitAfter]
def wsL_law_r17 : List Cond := [Cond.code yX5_waitAfter cX5_waitAfter 1 (some .int), Cond.methodLink RX5 167 Lib.Math.min.name, Cond.methodLink RX5 301 yX2_rewind, Cond.instanceMethod yX2_rewind, Cond.selects RX2 yX2_rewind yX2_rewind, Cond.code yX2_rewind cX2_rewind 6 none, Cond.methodLink RX2 120 yX4_rewind, Cond.instanceMethod yX4_rewind, Cond.selects RX4 yX4_rewind yX4_rewind, Cond.code yX4_rewind cX4_rewind 2 none, Cond.methodLink RX2 123 yX1_rewindTaker, Cond.instanceMethod yX1_rewindTaker, Cond.selects RX1 yX1_rewindTaker yX1_rewindTaker, Cond.code yX1_rewindTaker cX1_rewindTaker 1 none, Cond.methodLink RX2 126 yX1_rewindGiver, Cond.instanceMethod yX1_rewindGiver, Cond.selects RX1 yX1_rewindGiver yX1_rewindGiver, Cond.code yX1_rewindGiver cX1_rewindGiver 2 none, Cond.methodLink RX1 70 Lib.Math.min.name, Cond.methodLink RX1 66 yX1_settled, Cond.methodLink RX5 246 yJ6_bitCount_0f7a4, Cond.static yJ6_bitCount_0f7a4, Cond.initialized RJ6, Cond.code yJ6_bitCount_0f7a4 cJ6_bitCount_0f7a4 1 (some .int)]
def wsL_law_r18 : List Cond := [Cond.constant RJ6 265 (1431655765), Cond.constant RJ6 266 (858993459), Cond.constant RJ6 267 (252645135), Cond.methodLink RX5 113 yX5_carryOut, Cond.instanceMethod yX5_carryOut, Cond.selects RX5 yX5_carryOut yX5_carryOut, Cond.code yX5_carryOut cX5_carryOut 6 none, Cond.fieldLink RX5 258 "RegionRestarts$Plan" "channels" "[I", Cond.fieldLink RX5 142 "RegionRestarts$Graph" "channels" "[LRegionRestarts$Channel;", Cond.fieldLink RX5 187 "RegionRestarts$Task" "place" "I", Cond.fieldLink RX5 266 "RegionRestarts$Plan" "values" "[I", Cond.methodLink RX5 139 yX2_hasChannel, Cond.instanceMethod yX2_hasChannel, Cond.selects RX2 yX2_hasChannel yX2_hasChannel, Cond.code yX2_hasChannel cX2_hasChannel 2 (some .boolean), Cond.methodLink RX5 260 yX1_takeOne, Cond.instanceMethod yX1_takeOne, Cond.selects RX1 yX1_takeOne yX1_takeOne, Cond.code yX1_takeOne cX1_takeOne 1 none, Cond.methodLink RX5 263 yX4_isAside, Cond.methodLink RX5 269 yX5_work, Cond.instanceMethod yX5_work, Cond.selects RX5 yX5_work yX5_work, Cond.code yX5_work cX5_work 4 none]
def wsL_law_r19 : List Cond := [Cond.fieldLink RX5 190 "RegionRestarts$Task" "sum" "I", Cond.constantLong RX5 279 (16807), Cond.constantLong RX5 281 (2147483647), Cond.constantLong RX5 283 (10), Cond.fieldLink RX5 285 "RegionRestarts$Task" "a" "I", Cond.methodLink RX5 273 yX4_putOut, Cond.instanceMethod yX4_putOut, Cond.selects RX4 yX4_putOut yX4_putOut, Cond.code yX4_putOut cX4_putOut 2 none, Cond.methodLink RX5 276 yX2_give, Cond.instanceMethod yX2_give, Cond.selects RX2 yX2_give yX2_give, Cond.code yX2_give cX2_give 4 none, Cond.methodLink RX2 86 yX1_put, Cond.instanceMethod yX1_put, Cond.selects RX1 yX1_put yX1_put, Cond.code yX1_put cX1_put 2 none, Cond.methodLink RX5 288 yX4_givesFor, Cond.methodLink RL 37 yX6_step, Cond.instanceMethod yX6_step, Cond.selects RX6 yX6_step yX6_step, Cond.code yX6_step cX6_step 4 (some .int), Cond.methodLink RX6 221 yX6_takeRows, Cond.instanceMethod yX6_takeRows]
def wsL_law_r20 : List Cond := [Cond.selects RX6 yX6_takeRows yX6_takeRows, Cond.code yX6_takeRows cX6_takeRows 10 (some .int), Cond.methodLink RX6 195 yX6_holdAll, Cond.instanceMethod yX6_holdAll, Cond.selects RX6 yX6_holdAll yX6_holdAll, Cond.code yX6_holdAll cX6_holdAll 2 none, Cond.methodLink RX6 198 yX6_findDone, Cond.instanceMethod yX6_findDone, Cond.selects RX6 yX6_findDone yX6_findDone, Cond.code yX6_findDone cX6_findDone 4 none, Cond.methodLink RX6 201 yX6_nextOf, Cond.instanceMethod yX6_nextOf, Cond.selects RX6 yX6_nextOf yX6_nextOf, Cond.code yX6_nextOf cX6_nextOf 4 (some .int), Cond.methodLink RX6 180 yX6_isOver, Cond.instanceMethod yX6_isOver, Cond.selects RX6 yX6_isOver yX6_isOver, Cond.code yX6_isOver cX6_isOver 2 (some .boolean), Cond.methodLink RX6 183 yX6_ready, Cond.instanceMethod yX6_ready, Cond.selects RX6 yX6_ready yX6_ready, Cond.code yX6_ready cX6_ready 2 (some .int), Cond.methodLink RX6 204 yX6_canGive, Cond.instanceMethod yX6_canGive]
def wsL_law_r21 : List Cond := [Cond.selects RX6 yX6_canGive yX6_canGive, Cond.code yX6_canGive cX6_canGive 4 (some .boolean), Cond.methodLink RX6 207 yX6_valueOf, Cond.instanceMethod yX6_valueOf, Cond.selects RX6 yX6_valueOf yX6_valueOf, Cond.code yX6_valueOf cX6_valueOf 3 (some .int), Cond.methodLink RX6 211 yX6_isAside, Cond.instanceMethod yX6_isAside, Cond.selects RX6 yX6_isAside yX6_isAside, Cond.code yX6_isAside cX6_isAside 5 (some .boolean), Cond.methodLink RX6 215 yX6_work, Cond.instanceMethod yX6_work, Cond.selects RX6 yX6_work yX6_work, Cond.code yX6_work cX6_work 3 none, Cond.constantLong RX6 191 (16807), Cond.constantLong RX6 193 (2147483647), Cond.methodLink RX6 187 yX6_give, Cond.instanceMethod yX6_give, Cond.selects RX6 yX6_give yX6_give, Cond.code yX6_give cX6_give 4 none, Cond.methodLink RX6 218 yX6_undoAll, Cond.instanceMethod yX6_undoAll, Cond.selects RX6 yX6_undoAll yX6_undoAll, Cond.code yX6_undoAll cX6_undoAll 2 none]
def wsL_law_r22 : List Cond := [Cond.methodLink RX6 224 yX6_failOne, Cond.instanceMethod yX6_failOne, Cond.selects RX6 yX6_failOne yX6_failOne, Cond.code yX6_failOne cX6_failOne 3 (some .int), Cond.methodLink RX6 230 yX6_blame, Cond.instanceMethod yX6_blame, Cond.selects RX6 yX6_blame yX6_blame, Cond.code yX6_blame cX6_blame 3 none, Cond.methodLink RX6 233 yX6_noRegion, Cond.instanceMethod yX6_noRegion, Cond.selects RX6 yX6_noRegion yX6_noRegion, Cond.code yX6_noRegion cX6_noRegion 2 none, Cond.methodLink RX6 236 yX6_grow, Cond.instanceMethod yX6_grow, Cond.selects RX6 yX6_grow yX6_grow, Cond.code yX6_grow cX6_grow 5 none, Cond.methodLink RX6 227 yX6_isUnsteady, Cond.instanceMethod yX6_isUnsteady, Cond.selects RX6 yX6_isUnsteady yX6_isUnsteady, Cond.code yX6_isUnsteady cX6_isUnsteady 4 (some .boolean), Cond.methodLink RX6 239 yX6_beginAgain, Cond.instanceMethod yX6_beginAgain, Cond.selects RX6 yX6_beginAgain yX6_beginAgain, Cond.code yX6_beginAgain cX6_beginAgain 6 (some .int)]
def wsL_law_r23 : List Cond := [Cond.methodLink RL 38 yX5_fail, Cond.instanceMethod yX5_fail, Cond.selects RX5 yX5_fail yX5_fail, Cond.code yX5_fail cX5_fail 2 (some .int), Cond.methodLink RL 41 yX6_fail, Cond.instanceMethod yX6_fail, Cond.selects RX6 yX6_fail yX6_fail, Cond.code yX6_fail cX6_fail 2 (some .int), Cond.methodLink RL 42 yX5_gone, Cond.instanceMethod yX5_gone, Cond.selects RX5 yX5_gone yX5_gone, Cond.code yX5_gone cX5_gone 4 (some .int), Cond.methodLink RX5 120 yX5_nodesThere, Cond.instanceMethod yX5_nodesThere, Cond.selects RX5 yX5_nodesThere yX5_nodesThere, Cond.code yX5_nodesThere cX5_nodesThere 3 (some .int), Cond.methodLink RX5 124 yX2_tasksOn, Cond.instanceMethod yX2_tasksOn, Cond.selects RX2 yX2_tasksOn yX2_tasksOn, Cond.code yX2_tasksOn cX2_tasksOn 4 (some .int), Cond.fieldLink RX2 42 "RegionRestarts$Task" "node" "I", Cond.methodLink RX5 130 yX5_moveAway, Cond.instanceMethod yX5_moveAway, Cond.selects RX5 yX5_moveAway yX5_moveAway]
def wsL_law_r24 : List Cond := [Cond.code yX5_moveAway cX5_moveAway 3 none, Cond.fieldLink RX5 184 "RegionRestarts$Task" "node" "I", Cond.methodLink RX5 304 yX5_emptiestNode, Cond.instanceMethod yX5_emptiestNode, Cond.selects RX5 yX5_emptiestNode yX5_emptiestNode, Cond.code yX5_emptiestNode cX5_emptiestNode 6 (some .int), Cond.methodLink RX5 133 yX2_loseAllFrom, Cond.instanceMethod yX2_loseAllFrom, Cond.selects RX2 yX2_loseAllFrom yX2_loseAllFrom, Cond.code yX2_loseAllFrom cX2_loseAllFrom 3 none, Cond.methodLink RX2 97 yX1_loseBehindMark, Cond.instanceMethod yX1_loseBehindMark, Cond.selects RX1 yX1_loseBehindMark yX1_loseBehindMark, Cond.code yX1_loseBehindMark cX1_loseBehindMark 1 none, Cond.methodLink RL 45 yX6_gone, Cond.instanceMethod yX6_gone, Cond.selects RX6 yX6_gone yX6_gone, Cond.code yX6_gone cX6_gone 4 (some .int), Cond.methodLink RX6 242 yX6_nodesThere, Cond.instanceMethod yX6_nodesThere, Cond.selects RX6 yX6_nodesThere yX6_nodesThere, Cond.code yX6_nodesThere cX6_nodesThere 3 (some .int), Cond.methodLink RX6 246 yX6_emptiest, Cond.instanceMethod yX6_emptiest]
def wsL_law_r25 : List Cond := [Cond.selects RX6 yX6_emptiest yX6_emptiest, Cond.code yX6_emptiest cX6_emptiest 6 (some .int), Cond.methodLink RL 46 yX5_lose, Cond.instanceMethod yX5_lose, Cond.selects RX5 yX5_lose yX5_lose, Cond.code yX5_lose cX5_lose 3 (some .int), Cond.fieldLink RX5 146 "RegionRestarts$Channel" "isKept" "Z", Cond.fieldLink RX5 154 "RegionRestarts$Channel" "lost" "I", Cond.fieldLink RX5 157 "RegionRestarts$Channel" "taken" "I", Cond.fieldLink RX5 160 "RegionRestarts$Channel" "held" "I", Cond.fieldLink RX5 163 "RegionRestarts$Channel" "from" "I", Cond.methodLink RX5 151 yX1_loseBehindMark, Cond.methodLink RL 49 yX6_lose, Cond.instanceMethod yX6_lose, Cond.selects RX6 yX6_lose yX6_lose, Cond.code yX6_lose cX6_lose 2 (some .int), Cond.methodLink RX6 249 yX6_noChannel, Cond.instanceMethod yX6_noChannel, Cond.selects RX6 yX6_noChannel yX6_noChannel, Cond.code yX6_noChannel cX6_noChannel 2 (some .boolean), Cond.methodLink RL 50 yX5_tick, Cond.instanceMethod yX5_tick, Cond.selects RX5 yX5_tick yX5_tick, Cond.code yX5_tick cX5_tick 2 (some .int)]
def wsL_law_r26 : List Cond := [Cond.constant RX5 166 (1000000), Cond.methodLink RL 53 yX6_tick, Cond.instanceMethod yX6_tick, Cond.selects RX6 yX6_tick yX6_tick, Cond.code yX6_tick cX6_tick 2 (some .int), Cond.constant RX6 252 (1000000), Cond.methodLink RL 54 yX5_mark, Cond.instanceMethod yX5_mark, Cond.selects RX5 yX5_mark yX5_mark, Cond.code yX5_mark cX5_mark 1 (some .int), Cond.methodLink RX5 172 yX2_countWaiting, Cond.instanceMethod yX2_countWaiting, Cond.selects RX2 yX2_countWaiting yX2_countWaiting, Cond.code yX2_countWaiting cX2_countWaiting 4 (some .int), Cond.methodLink RX2 45 yX4_waitsStill, Cond.methodLink RX5 175 yX2_keepAsMark, Cond.instanceMethod yX2_keepAsMark, Cond.selects RX2 yX2_keepAsMark yX2_keepAsMark, Cond.code yX2_keepAsMark cX2_keepAsMark 2 none, Cond.methodLink RX2 100 yX4_keepAsMark, Cond.methodLink RX2 103 yX1_keepAsMark, Cond.methodLink RL 58 yX6_mark, Cond.instanceMethod yX6_mark, Cond.selects RX6 yX6_mark yX6_mark]
def wsL_law_r27 : List Cond := [Cond.code yX6_mark cX6_mark 2 (some .int), Cond.methodLink RX6 253 yX6_waiting, Cond.instanceMethod yX6_waiting, Cond.selects RX6 yX6_waiting yX6_waiting, Cond.code yX6_waiting cX6_waiting 3 (some .int), Cond.methodLink RL 59 yX5_region, Cond.instanceMethod yX5_region, Cond.selects RX5 yX5_region yX5_region, Cond.code yX5_region cX5_region 2 (some .int), Cond.methodLink RL 62 yX6_region, Cond.instanceMethod yX6_region, Cond.selects RX6 yX6_region yX6_region, Cond.code yX6_region cX6_region 4 (some .int), Cond.methodLink RL 63 yX5_taskAt, Cond.instanceMethod yX5_taskAt, Cond.selects RX5 yX5_taskAt yX5_taskAt, Cond.code yX5_taskAt cX5_taskAt 4 (some .int), Cond.fieldLink RX5 193 "RegionRestarts$Task" "width" "I", Cond.fieldLink RX5 209 "RegionRestarts$Task" "outCount" "I", Cond.fieldLink RX5 212 "RegionRestarts$Task" "asideCount" "I", Cond.methodLink RX5 199 yX2_doneTasks, Cond.methodLink RX5 205 yX5_asNumber, Cond.static yX5_asNumber, Cond.code yX5_asNumber cX5_asNumber 1 (some .int)]
def wsL_law_r28 : List Cond := [Cond.methodLink RL 66 yX6_taskAt, Cond.instanceMethod yX6_taskAt, Cond.selects RX6 yX6_taskAt yX6_taskAt, Cond.code yX6_taskAt cX6_taskAt 3 (some .int), Cond.methodLink RL 67 yX5_channelAt, Cond.instanceMethod yX5_channelAt, Cond.selects RX5 yX5_channelAt yX5_channelAt, Cond.code yX5_channelAt cX5_channelAt 4 (some .int), Cond.fieldLink RX5 215 "RegionRestarts$Channel" "to" "I", Cond.fieldLink RX5 218 "RegionRestarts$Channel" "given" "I", Cond.fieldLink RX5 224 "RegionRestarts$Channel" "seen" "I", Cond.methodLink RX5 221 yX1_isOverAt, Cond.methodLink RL 70 yX6_channelAt, Cond.instanceMethod yX6_channelAt, Cond.selects RX6 yX6_channelAt yX6_channelAt, Cond.code yX6_channelAt cX6_channelAt 3 (some .int), Cond.methodLink RL 71 yX5_row, Cond.instanceMethod yX5_row, Cond.selects RX5 yX5_row yX5_row, Cond.code yX5_row cX5_row 4 (some .int), Cond.fieldLink RX5 227 "RegionRestarts$Channel" "rows" "[I", Cond.methodLink RL 74 yX6_row, Cond.instanceMethod yX6_row, Cond.selects RX6 yX6_row yX6_row]
def wsL_law_r29 : List Cond := [Cond.code yX6_row cX6_row 3 (some .int), Cond.methodLink RL 75 yX5_out, Cond.instanceMethod yX5_out, Cond.selects RX5 yX5_out yX5_out, Cond.code yX5_out cX5_out 4 (some .int), Cond.fieldLink RX5 231 "RegionRestarts$Task" "outRows" "[I", Cond.methodLink RL 78 yX6_out, Cond.instanceMethod yX6_out, Cond.selects RX6 yX6_out yX6_out, Cond.code yX6_out cX6_out 3 (some .int), Cond.methodLink RL 79 yX5_aside, Cond.instanceMethod yX5_aside, Cond.selects RX5 yX5_aside yX5_aside, Cond.code yX5_aside cX5_aside 4 (some .int), Cond.fieldLink RX5 234 "RegionRestarts$Task" "asideNumbers" "[I", Cond.methodLink RL 82 yX6_aside, Cond.instanceMethod yX6_aside, Cond.selects RX6 yX6_aside yX6_aside, Cond.code yX6_aside cX6_aside 3 (some .int), Cond.methodLink RL 83 yX5_cause, Cond.instanceMethod yX5_cause, Cond.selects RX5 yX5_cause yX5_cause, Cond.code yX5_cause cX5_cause 3 (some .int), Cond.fieldLink RX5 238 "RegionRestarts$Causes" "tasks" "[I"]
def wsL_law_r30 : List Cond := [Cond.fieldLink RX5 240 "RegionRestarts$Causes" "times" "[I", Cond.fieldLink RX5 243 "RegionRestarts$Causes" "kinds" "[I", Cond.methodLink RL 86 yX6_cause, Cond.instanceMethod yX6_cause, Cond.selects RX6 yX6_cause yX6_cause, Cond.code yX6_cause cX6_cause 3 (some .int), Cond.methodLink RL 87 yX5_told, Cond.instanceMethod yX5_told, Cond.selects RX5 yX5_told yX5_told, Cond.code yX5_told cX5_told 2 (some .int), Cond.methodLink RL 90 yX6_told, Cond.instanceMethod yX6_told, Cond.selects RX6 yX6_told yX6_told, Cond.code yX6_told cX6_told 2 (some .int), Cond.methodLink RX6 256 yX6_doneMany, Cond.instanceMethod yX6_doneMany, Cond.selects RX6 yX6_doneMany yX6_doneMany, Cond.code yX6_doneMany cX6_doneMany 3 (some .int), Cond.methodLink RL 91 yX5_clear, Cond.instanceMethod yX5_clear, Cond.selects RX5 yX5_clear yX5_clear, Cond.code yX5_clear cX5_clear 2 (some .int), Cond.methodLink RL 94 yX6_clear, Cond.instanceMethod yX6_clear]
def wsL_law_r31 : List Cond := [Cond.selects RX6 yX6_clear yX6_clear, Cond.code yX6_clear cX6_clear 2 (some .int)]
def wsL_law : List Cond := (wsL_law_r1 ++ (wsL_law_r2 ++ (wsL_law_r3 ++ (wsL_law_r4 ++ (wsL_law_r5 ++ (wsL_law_r6 ++ (wsL_law_r7 ++ (wsL_law_r8 ++ (wsL_law_r9 ++ (wsL_law_r10 ++ (wsL_law_r11 ++ (wsL_law_r12 ++ (wsL_law_r13 ++ (wsL_law_r14 ++ (wsL_law_r15 ++ (wsL_law_r16 ++ (wsL_law_r17 ++ (wsL_law_r18 ++ (wsL_law_r19 ++ (wsL_law_r20 ++ (wsL_law_r21 ++ (wsL_law_r22 ++ (wsL_law_r23 ++ (wsL_law_r24 ++ (wsL_law_r25 ++ (wsL_law_r26 ++ (wsL_law_r27 ++ (wsL_law_r28 ++ (wsL_law_r29 ++ (wsL_law_r30 ++ wsL_law_r31)))))))))))))))))))))))))))))) ++ wsX50 ++ wsX60 ++ wsX20 ++ wsX30 ++ wsX00 ++ wsX40 ++ wsX10 ++ ([] : List Cond)
theorem inlX0 : ∀ w ∈ wsX00, w ∈ wsL_law := fun _ h => List.mem_append_left _ (List.mem_append_left _ (List.mem_append_left _ (List.mem_append_right _ h)))
theorem inlX1 : ∀ w ∈ wsX10, w ∈ wsL_law := fun _ h => List.mem_append_left _ (List.mem_append_right _ h)
theorem inlX2 : ∀ w ∈ wsX20, w ∈ wsL_law := fun _ h => List.mem_append_left _ (List.mem_append_left _ (List.mem_append_left _ (List.mem_append_left _ (List.mem_append_left _ (List.mem_append_right _ h)))))
theorem inlX3 : ∀ w ∈ wsX30, w ∈ wsL_law := fun _ h => List.mem_append_left _ (List.mem_append_left _ (List.mem_append_left _ (List.mem_append_left _ (List.mem_append_right _ h))))
theorem inlX4 : ∀ w ∈ wsX40, w ∈ wsL_law := fun _ h => List.mem_append_left _ (List.mem_append_left _ (List.mem_append_right _ h))
theorem inlX5 : ∀ w ∈ wsX50, w ∈ wsL_law := fun _ h => List.mem_append_left _ (List.mem_append_left _ (List.mem_append_left _ (List.mem_append_left _ (List.mem_append_left _ (List.mem_append_left _ (List.mem_append_left _ (List.mem_append_right _ h)))))))
theorem inlX6 : ∀ w ∈ wsX60, w ∈ wsL_law := fun _ h => List.mem_append_left _ (List.mem_append_left _ (List.mem_append_left _ (List.mem_append_left _ (List.mem_append_left _ (List.mem_append_left _ (List.mem_append_right _ h))))))

abbrev classes : List vw_C := [(RX0, TX0, 4), (RX1, TX1, 12), (RX2, TX2, 4), (RX3, TX3, 5), (RX4, TX4, 17), (RX5, TX5, 13), (RX6, TX6, 51)]
def cty (c k : Nat) : FieldType := match c with
  | 0 => tyX0 k
  | 1 => tyX1 k
  | 2 => tyX2 k
  | 3 => tyX3 k
  | 4 => tyX4 k
  | 5 => tyX5 k
  | _ => tyX6 k
def nAt : Nat := 4
def aty (t : Nat) : FieldType := match t with
  | 0 => .int
  | 1 => .boolean
  | 2 => .object "RegionRestarts$Task"
  | _ => .object "RegionRestarts$Channel"
def fS (φ : Nat) : Nat := if φ < 17 then 0 else 1
def fK (φ : Nat) : Nat := match φ with
  | 0 => 1
  | 1 => 1
  | 2 => 1
  | 3 => 1
  | 4 => 1
  | 5 => 1
  | 6 => 2
  | 7 => 2
  | 8 => 2
  | 9 => 2
  | 10 => 2
  | 11 => 2
  | 12 => 2
  | 13 => 2
  | 14 => 2
  | 15 => 2
  | 16 => 2
  | 20 => 1
  | 21 => 2
  | 22 => 2
  | 23 => 2
  | 24 => 2
  | 25 => 2
  | 26 => 2
  | 27 => 2
  | 28 => 2
  | 29 => 2
  | 30 => 2
  | 31 => 2
  | 32 => 2
  | 33 => 2
  | 34 => 2
  | 35 => 2
  | 36 => 2
  | 37 => 2
  | 38 => 2
  | 39 => 2
  | 40 => 2
  | 41 => 2
  | 42 => 2
  | 43 => 2
  | 44 => 2
  | 45 => 2
  | 46 => 2
  | 47 => 2
  | 48 => 2
  | 49 => 2
  | 50 => 2
  | 51 => 2
  | 52 => 2
  | 53 => 2
  | 54 => 2
  | 55 => 2
  | 56 => 2
  | 57 => 2
  | 58 => 2
  | 59 => 2
  | _ => 0
def fC (φ : Nat) : Nat := match φ with
  | 0 => 5
  | 1 => 2
  | 2 => 3
  | 3 => 0
  | 4 => 4
  | 5 => 1
  | 6 => 1
  | 7 => 2
  | 8 => 3
  | 9 => 0
  | 10 => 0
  | 11 => 0
  | 12 => 0
  | 13 => 0
  | 14 => 0
  | 15 => 0
  | 16 => 0
  | 20 => 6
  | 21 => 0
  | 22 => 0
  | 23 => 0
  | 24 => 0
  | 25 => 0
  | 26 => 0
  | 27 => 0
  | 28 => 0
  | 29 => 0
  | 30 => 0
  | 31 => 0
  | 32 => 0
  | 33 => 0
  | 34 => 0
  | 35 => 0
  | 36 => 1
  | 37 => 0
  | 38 => 0
  | 39 => 0
  | 40 => 0
  | 41 => 0
  | 42 => 1
  | 43 => 0
  | 44 => 0
  | 45 => 0
  | 46 => 0
  | 47 => 0
  | 48 => 0
  | 49 => 0
  | 50 => 1
  | 51 => 0
  | 52 => 0
  | 53 => 0
  | 54 => 1
  | 55 => 0
  | 56 => 0
  | 57 => 0
  | 58 => 1
  | 59 => 1
  | _ => 0
def fL (φ : Nat) : Nat := match φ with
  | 0 => 0
  | 1 => 0
  | 2 => 0
  | 3 => 0
  | 4 => 0
  | 5 => 0
  | 6 => 4
  | 7 => 16
  | 8 => 40
  | 9 => 8
  | 10 => 8
  | 11 => 64
  | 12 => 64
  | 13 => 64
  | 14 => 200
  | 15 => 8
  | 16 => 64
  | 20 => 0
  | 21 => 16
  | 22 => 16
  | 23 => 16
  | 24 => 16
  | 25 => 16
  | 26 => 16
  | 27 => 3200
  | 28 => 16
  | 29 => 16
  | 30 => 16
  | 31 => 16
  | 32 => 16
  | 33 => 128
  | 34 => 40
  | 35 => 40
  | 36 => 40
  | 37 => 2560
  | 38 => 40
  | 39 => 40
  | 40 => 40
  | 41 => 40
  | 42 => 40
  | 43 => 40
  | 44 => 16
  | 45 => 16
  | 46 => 16
  | 47 => 40
  | 48 => 40
  | 49 => 40
  | 50 => 4
  | 51 => 64
  | 52 => 64
  | 53 => 64
  | 54 => 16
  | 55 => 40
  | 56 => 40
  | 57 => 40
  | 58 => 16
  | 59 => 16
  | _ => 0
def fN (φ : Nat) : Nat := match φ with
  | 0 => 1
  | 1 => 1
  | 2 => 1
  | 3 => 1
  | 4 => 16
  | 5 => 40
  | 6 => 1
  | 7 => 1
  | 8 => 1
  | 9 => 1
  | 10 => 1
  | 11 => 1
  | 12 => 1
  | 13 => 1
  | 14 => 16
  | 15 => 16
  | 16 => 40
  | 20 => 1
  | 21 => 1
  | 22 => 1
  | 23 => 1
  | 24 => 1
  | 25 => 1
  | 26 => 1
  | 27 => 1
  | 28 => 1
  | 29 => 1
  | 30 => 1
  | 31 => 1
  | 32 => 1
  | 33 => 1
  | 34 => 1
  | 35 => 1
  | 36 => 1
  | 37 => 1
  | 38 => 1
  | 39 => 1
  | 40 => 1
  | 41 => 1
  | 42 => 1
  | 43 => 1
  | 44 => 1
  | 45 => 1
  | 46 => 1
  | 47 => 1
  | 48 => 1
  | 49 => 1
  | 50 => 1
  | 51 => 1
  | 52 => 1
  | 53 => 1
  | 54 => 1
  | 55 => 1
  | 56 => 1
  | 57 => 1
  | 58 => 1
  | 59 => 1
  | _ => 0
def fP0 (i k : Nat) : Nat × Nat := match k with
  | 0 => (1, 0)
  | 1 => (2, 0)
  | 2 => (3, 0)
  | 3 => (6, 0)
  | _ => (0, i)
def fP1 (i k : Nat) : Nat × Nat := match k with
  | 0 => (7, 0)
  | 1 => (8, 0)
  | _ => (0, i)
def fP2 (i k : Nat) : Nat × Nat := match k with
  | 0 => (9, 0)
  | 1 => (10, 0)
  | _ => (0, i)
def fP3 (i k : Nat) : Nat × Nat := match k with
  | 0 => (11, 0)
  | 1 => (12, 0)
  | 2 => (13, 0)
  | _ => (0, i)
def fP4 (i k : Nat) : Nat × Nat := match k with
  | 0 => (14, i)
  | 1 => (15, i)
  | _ => (0, i)
def fP5 (i k : Nat) : Nat × Nat := match k with
  | 0 => (16, i)
  | _ => (0, i)
def fP20 (i k : Nat) : Nat × Nat := match k with
  | 1 => (21, 0)
  | 2 => (22, 0)
  | 3 => (23, 0)
  | 4 => (24, 0)
  | 5 => (25, 0)
  | 6 => (26, 0)
  | 7 => (27, 0)
  | 8 => (28, 0)
  | 9 => (29, 0)
  | 10 => (30, 0)
  | 11 => (31, 0)
  | 12 => (32, 0)
  | 13 => (33, 0)
  | 15 => (34, 0)
  | 16 => (35, 0)
  | 17 => (36, 0)
  | 18 => (37, 0)
  | 19 => (38, 0)
  | 20 => (39, 0)
  | 21 => (40, 0)
  | 22 => (41, 0)
  | 23 => (42, 0)
  | 24 => (43, 0)
  | 25 => (44, 0)
  | 26 => (45, 0)
  | 27 => (46, 0)
  | 28 => (47, 0)
  | 29 => (48, 0)
  | 30 => (49, 0)
  | 31 => (50, 0)
  | 40 => (51, 0)
  | 41 => (52, 0)
  | 42 => (53, 0)
  | 45 => (54, 0)
  | 46 => (55, 0)
  | 47 => (56, 0)
  | 48 => (57, 0)
  | 49 => (58, 0)
  | 50 => (59, 0)
  | _ => (0, i)
def fP (φ i k : Nat) : Nat × Nat := match φ with
  | 0 => fP0 i k
  | 1 => fP1 i k
  | 2 => fP2 i k
  | 3 => fP3 i k
  | 4 => fP4 i k
  | 5 => fP5 i k
  | 7 => (4, k)
  | 8 => (5, k)
  | 20 => fP20 i k
  | _ => (0, 0)
end
section
theorem nmX0 : ∀ a, a < 4 → ∀ b, b < 4 → a ≠ b → (TX0 a).2.1 ≠ (TX0 b).2.1 := by decide +kernel
theorem tyX0_ok : ∀ k, k < 4 → parseFieldDescriptor (TX0 k).2.2.1 = some (tyX0 k) := by decide +kernel
theorem nmX1 : ∀ a, a < 12 → ∀ b, b < 12 → a ≠ b → (TX1 a).2.1 ≠ (TX1 b).2.1 := by decide +kernel
theorem tyX1_ok : ∀ k, k < 12 → parseFieldDescriptor (TX1 k).2.2.1 = some (tyX1 k) := by decide +kernel
theorem nmX2 : ∀ a, a < 4 → ∀ b, b < 4 → a ≠ b → (TX2 a).2.1 ≠ (TX2 b).2.1 := by decide +kernel
theorem tyX2_ok : ∀ k, k < 4 → parseFieldDescriptor (TX2 k).2.2.1 = some (tyX2 k) := by decide +kernel
theorem nmX3 : ∀ a, a < 5 → ∀ b, b < 5 → a ≠ b → (TX3 a).2.1 ≠ (TX3 b).2.1 := by decide +kernel
theorem tyX3_ok : ∀ k, k < 5 → parseFieldDescriptor (TX3 k).2.2.1 = some (tyX3 k) := by decide +kernel
theorem nmX4 : ∀ a, a < 17 → ∀ b, b < 17 → a ≠ b → (TX4 a).2.1 ≠ (TX4 b).2.1 := by decide +kernel
theorem tyX4_ok : ∀ k, k < 17 → parseFieldDescriptor (TX4 k).2.2.1 = some (tyX4 k) := by decide +kernel
theorem nmX5 : ∀ a, a < 13 → ∀ b, b < 13 → a ≠ b → (TX5 a).2.1 ≠ (TX5 b).2.1 := by decide +kernel
theorem tyX5_ok : ∀ k, k < 13 → parseFieldDescriptor (TX5 k).2.2.1 = some (tyX5 k) := by decide +kernel
theorem nmX6 : ∀ a, a < 51 → ∀ b, b < 51 → a ≠ b → (TX6 a).2.1 ≠ (TX6 b).2.1 := by decide +kernel
theorem tyX6_ok : ∀ k, k < 51 → parseFieldDescriptor (TX6 k).2.2.1 = some (tyX6 k) := by decide +kernel
end
section
theorem wr_1 : ∀ w ∈ wsL_law_r1, w ∈ wsL_law := fun _ h => List.mem_append_left _ (List.mem_append_left _ (List.mem_append_left _ (List.mem_append_left _ (List.mem_append_left _ (List.mem_append_left _ (List.mem_append_left _ (List.mem_append_left _ (List.mem_append_left _ h))))))))
theorem wr_2 : ∀ w ∈ wsL_law_r2, w ∈ wsL_law := fun _ h => List.mem_append_left _ (List.mem_append_left _ (List.mem_append_left _ (List.mem_append_left _ (List.mem_append_left _ (List.mem_append_left _ (List.mem_append_left _ (List.mem_append_left _ (List.mem_append_right _ (List.mem_append_left _ h)))))))))
theorem wr_3 : ∀ w ∈ wsL_law_r3, w ∈ wsL_law := fun _ h => List.mem_append_left _ (List.mem_append_left _ (List.mem_append_left _ (List.mem_append_left _ (List.mem_append_left _ (List.mem_append_left _ (List.mem_append_left _ (List.mem_append_left _ (List.mem_append_right _ (List.mem_append_right _ (List.mem_append_left _ h))))))))))
theorem wr_4 : ∀ w ∈ wsL_law_r4, w ∈ wsL_law := fun _ h => List.mem_append_left _ (List.mem_append_left _ (List.mem_append_left _ (List.mem_append_left _ (List.mem_append_left _ (List.mem_append_left _ (List.mem_append_left _ (List.mem_append_left _ (List.mem_append_right _ (List.mem_append_right _ (List.mem_append_right _ (List.mem_append_left _ h)))))))))))
theorem wr_5 : ∀ w ∈ wsL_law_r5, w ∈ wsL_law := fun _ h => List.mem_append_left _ (List.mem_append_left _ (List.mem_append_left _ (List.mem_append_left _ (List.mem_append_left _ (List.mem_append_left _ (List.mem_append_left _ (List.mem_append_left _ (List.mem_append_right _ (List.mem_append_right _ (List.mem_append_right _ (List.mem_append_right _ (List.mem_append_left _ h))))))))))))
theorem wr_6 : ∀ w ∈ wsL_law_r6, w ∈ wsL_law := fun _ h => List.mem_append_left _ (List.mem_append_left _ (List.mem_append_left _ (List.mem_append_left _ (List.mem_append_left _ (List.mem_append_left _ (List.mem_append_left _ (List.mem_append_left _ (List.mem_append_right _ (List.mem_append_right _ (List.mem_append_right _ (List.mem_append_right _ (List.mem_append_right _ (List.mem_append_left _ h)))))))))))))
theorem wr_7 : ∀ w ∈ wsL_law_r7, w ∈ wsL_law := fun _ h => List.mem_append_left _ (List.mem_append_left _ (List.mem_append_left _ (List.mem_append_left _ (List.mem_append_left _ (List.mem_append_left _ (List.mem_append_left _ (List.mem_append_left _ (List.mem_append_right _ (List.mem_append_right _ (List.mem_append_right _ (List.mem_append_right _ (List.mem_append_right _ (List.mem_append_right _ (List.mem_append_left _ h))))))))))))))
theorem wr_8 : ∀ w ∈ wsL_law_r8, w ∈ wsL_law := fun _ h => List.mem_append_left _ (List.mem_append_left _ (List.mem_append_left _ (List.mem_append_left _ (List.mem_append_left _ (List.mem_append_left _ (List.mem_append_left _ (List.mem_append_left _ (List.mem_append_right _ (List.mem_append_right _ (List.mem_append_right _ (List.mem_append_right _ (List.mem_append_right _ (List.mem_append_right _ (List.mem_append_right _ (List.mem_append_left _ h)))))))))))))))
theorem wr_9 : ∀ w ∈ wsL_law_r9, w ∈ wsL_law := fun _ h => List.mem_append_left _ (List.mem_append_left _ (List.mem_append_left _ (List.mem_append_left _ (List.mem_append_left _ (List.mem_append_left _ (List.mem_append_left _ (List.mem_append_left _ (List.mem_append_right _ (List.mem_append_right _ (List.mem_append_right _ (List.mem_append_right _ (List.mem_append_right _ (List.mem_append_right _ (List.mem_append_right _ (List.mem_append_right _ (List.mem_append_left _ h))))))))))))))))
theorem wr_10 : ∀ w ∈ wsL_law_r10, w ∈ wsL_law := fun _ h => List.mem_append_left _ (List.mem_append_left _ (List.mem_append_left _ (List.mem_append_left _ (List.mem_append_left _ (List.mem_append_left _ (List.mem_append_left _ (List.mem_append_left _ (List.mem_append_right _ (List.mem_append_right _ (List.mem_append_right _ (List.mem_append_right _ (List.mem_append_right _ (List.mem_append_right _ (List.mem_append_right _ (List.mem_append_right _ (List.mem_append_right _ (List.mem_append_left _ h)))))))))))))))))
theorem wr_11 : ∀ w ∈ wsL_law_r11, w ∈ wsL_law := fun _ h => List.mem_append_left _ (List.mem_append_left _ (List.mem_append_left _ (List.mem_append_left _ (List.mem_append_left _ (List.mem_append_left _ (List.mem_append_left _ (List.mem_append_left _ (List.mem_append_right _ (List.mem_append_right _ (List.mem_append_right _ (List.mem_append_right _ (List.mem_append_right _ (List.mem_append_right _ (List.mem_append_right _ (List.mem_append_right _ (List.mem_append_right _ (List.mem_append_right _ (List.mem_append_left _ h))))))))))))))))))
theorem wr_12 : ∀ w ∈ wsL_law_r12, w ∈ wsL_law := fun _ h => List.mem_append_left _ (List.mem_append_left _ (List.mem_append_left _ (List.mem_append_left _ (List.mem_append_left _ (List.mem_append_left _ (List.mem_append_left _ (List.mem_append_left _ (List.mem_append_right _ (List.mem_append_right _ (List.mem_append_right _ (List.mem_append_right _ (List.mem_append_right _ (List.mem_append_right _ (List.mem_append_right _ (List.mem_append_right _ (List.mem_append_right _ (List.mem_append_right _ (List.mem_append_right _ (List.mem_append_left _ h)))))))))))))))))))
theorem wr_13 : ∀ w ∈ wsL_law_r13, w ∈ wsL_law := fun _ h => List.mem_append_left _ (List.mem_append_left _ (List.mem_append_left _ (List.mem_append_left _ (List.mem_append_left _ (List.mem_append_left _ (List.mem_append_left _ (List.mem_append_left _ (List.mem_append_right _ (List.mem_append_right _ (List.mem_append_right _ (List.mem_append_right _ (List.mem_append_right _ (List.mem_append_right _ (List.mem_append_right _ (List.mem_append_right _ (List.mem_append_right _ (List.mem_append_right _ (List.mem_append_right _ (List.mem_append_right _ (List.mem_append_left _ h))))))))))))))))))))
theorem wr_14 : ∀ w ∈ wsL_law_r14, w ∈ wsL_law := fun _ h => List.mem_append_left _ (List.mem_append_left _ (List.mem_append_left _ (List.mem_append_left _ (List.mem_append_left _ (List.mem_append_left _ (List.mem_append_left _ (List.mem_append_left _ (List.mem_append_right _ (List.mem_append_right _ (List.mem_append_right _ (List.mem_append_right _ (List.mem_append_right _ (List.mem_append_right _ (List.mem_append_right _ (List.mem_append_right _ (List.mem_append_right _ (List.mem_append_right _ (List.mem_append_right _ (List.mem_append_right _ (List.mem_append_right _ (List.mem_append_left _ h)))))))))))))))))))))
theorem wr_15 : ∀ w ∈ wsL_law_r15, w ∈ wsL_law := fun _ h => List.mem_append_left _ (List.mem_append_left _ (List.mem_append_left _ (List.mem_append_left _ (List.mem_append_left _ (List.mem_append_left _ (List.mem_append_left _ (List.mem_append_left _ (List.mem_append_right _ (List.mem_append_right _ (List.mem_append_right _ (List.mem_append_right _ (List.mem_append_right _ (List.mem_append_right _ (List.mem_append_right _ (List.mem_append_right _ (List.mem_append_right _ (List.mem_append_right _ (List.mem_append_right _ (List.mem_append_right _ (List.mem_append_right _ (List.mem_append_right _ (List.mem_append_left _ h))))))))))))))))))))))
theorem wr_16 : ∀ w ∈ wsL_law_r16, w ∈ wsL_law := fun _ h => List.mem_append_left _ (List.mem_append_left _ (List.mem_append_left _ (List.mem_append_left _ (List.mem_append_left _ (List.mem_append_left _ (List.mem_append_left _ (List.mem_append_left _ (List.mem_append_right _ (List.mem_append_right _ (List.mem_append_right _ (List.mem_append_right _ (List.mem_append_right _ (List.mem_append_right _ (List.mem_append_right _ (List.mem_append_right _ (List.mem_append_right _ (List.mem_append_right _ (List.mem_append_right _ (List.mem_append_right _ (List.mem_append_right _ (List.mem_append_right _ (List.mem_append_right _ (List.mem_append_left _ h)))))))))))))))))))))))
theorem wr_17 : ∀ w ∈ wsL_law_r17, w ∈ wsL_law := fun _ h => List.mem_append_left _ (List.mem_append_left _ (List.mem_append_left _ (List.mem_append_left _ (List.mem_append_left _ (List.mem_append_left _ (List.mem_append_left _ (List.mem_append_left _ (List.mem_append_right _ (List.mem_append_right _ (List.mem_append_right _ (List.mem_append_right _ (List.mem_append_right _ (List.mem_append_right _ (List.mem_append_right _ (List.mem_append_right _ (List.mem_append_right _ (List.mem_append_right _ (List.mem_append_right _ (List.mem_append_right _ (List.mem_append_right _ (List.mem_append_right _ (List.mem_append_right _ (List.mem_append_right _ (List.mem_append_left _ h))))))))))))))))))))))))
theorem wr_18 : ∀ w ∈ wsL_law_r18, w ∈ wsL_law := fun _ h => List.mem_append_left _ (List.mem_append_left _ (List.mem_append_left _ (List.mem_append_left _ (List.mem_append_left _ (List.mem_append_left _ (List.mem_append_left _ (List.mem_append_left _ (List.mem_append_right _ (List.mem_append_right _ (List.mem_append_right _ (List.mem_append_right _ (List.mem_append_right _ (List.mem_append_right _ (List.mem_append_right _ (List.mem_append_right _ (List.mem_append_right _ (List.mem_append_right _ (List.mem_append_right _ (List.mem_append_right _ (List.mem_append_right _ (List.mem_append_right _ (List.mem_append_right _ (List.mem_append_right _ (List.mem_append_right _ (List.mem_append_left _ h)))))))))))))))))))))))))
theorem wr_19 : ∀ w ∈ wsL_law_r19, w ∈ wsL_law := fun _ h => List.mem_append_left _ (List.mem_append_left _ (List.mem_append_left _ (List.mem_append_left _ (List.mem_append_left _ (List.mem_append_left _ (List.mem_append_left _ (List.mem_append_left _ (List.mem_append_right _ (List.mem_append_right _ (List.mem_append_right _ (List.mem_append_right _ (List.mem_append_right _ (List.mem_append_right _ (List.mem_append_right _ (List.mem_append_right _ (List.mem_append_right _ (List.mem_append_right _ (List.mem_append_right _ (List.mem_append_right _ (List.mem_append_right _ (List.mem_append_right _ (List.mem_append_right _ (List.mem_append_right _ (List.mem_append_right _ (List.mem_append_right _ (List.mem_append_left _ h))))))))))))))))))))))))))
theorem wr_20 : ∀ w ∈ wsL_law_r20, w ∈ wsL_law := fun _ h => List.mem_append_left _ (List.mem_append_left _ (List.mem_append_left _ (List.mem_append_left _ (List.mem_append_left _ (List.mem_append_left _ (List.mem_append_left _ (List.mem_append_left _ (List.mem_append_right _ (List.mem_append_right _ (List.mem_append_right _ (List.mem_append_right _ (List.mem_append_right _ (List.mem_append_right _ (List.mem_append_right _ (List.mem_append_right _ (List.mem_append_right _ (List.mem_append_right _ (List.mem_append_right _ (List.mem_append_right _ (List.mem_append_right _ (List.mem_append_right _ (List.mem_append_right _ (List.mem_append_right _ (List.mem_append_right _ (List.mem_append_right _ (List.mem_append_right _ (List.mem_append_left _ h)))))))))))))))))))))))))))
theorem wr_21 : ∀ w ∈ wsL_law_r21, w ∈ wsL_law := fun _ h => List.mem_append_left _ (List.mem_append_left _ (List.mem_append_left _ (List.mem_append_left _ (List.mem_append_left _ (List.mem_append_left _ (List.mem_append_left _ (List.mem_append_left _ (List.mem_append_right _ (List.mem_append_right _ (List.mem_append_right _ (List.mem_append_right _ (List.mem_append_right _ (List.mem_append_right _ (List.mem_append_right _ (List.mem_append_right _ (List.mem_append_right _ (List.mem_append_right _ (List.mem_append_right _ (List.mem_append_right _ (List.mem_append_right _ (List.mem_append_right _ (List.mem_append_right _ (List.mem_append_right _ (List.mem_append_right _ (List.mem_append_right _ (List.mem_append_right _ (List.mem_append_right _ (List.mem_append_left _ h))))))))))))))))))))))))))))
theorem wr_22 : ∀ w ∈ wsL_law_r22, w ∈ wsL_law := fun _ h => List.mem_append_left _ (List.mem_append_left _ (List.mem_append_left _ (List.mem_append_left _ (List.mem_append_left _ (List.mem_append_left _ (List.mem_append_left _ (List.mem_append_left _ (List.mem_append_right _ (List.mem_append_right _ (List.mem_append_right _ (List.mem_append_right _ (List.mem_append_right _ (List.mem_append_right _ (List.mem_append_right _ (List.mem_append_right _ (List.mem_append_right _ (List.mem_append_right _ (List.mem_append_right _ (List.mem_append_right _ (List.mem_append_right _ (List.mem_append_right _ (List.mem_append_right _ (List.mem_append_right _ (List.mem_append_right _ (List.mem_append_right _ (List.mem_append_right _ (List.mem_append_right _ (List.mem_append_right _ (List.mem_append_left _ h)))))))))))))))))))))))))))))
theorem wr_23 : ∀ w ∈ wsL_law_r23, w ∈ wsL_law := fun _ h => List.mem_append_left _ (List.mem_append_left _ (List.mem_append_left _ (List.mem_append_left _ (List.mem_append_left _ (List.mem_append_left _ (List.mem_append_left _ (List.mem_append_left _ (List.mem_append_right _ (List.mem_append_right _ (List.mem_append_right _ (List.mem_append_right _ (List.mem_append_right _ (List.mem_append_right _ (List.mem_append_right _ (List.mem_append_right _ (List.mem_append_right _ (List.mem_append_right _ (List.mem_append_right _ (List.mem_append_right _ (List.mem_append_right _ (List.mem_append_right _ (List.mem_append_right _ (List.mem_append_right _ (List.mem_append_right _ (List.mem_append_right _ (List.mem_append_right _ (List.mem_append_right _ (List.mem_append_right _ (List.mem_append_right _ (List.mem_append_left _ h))))))))))))))))))))))))))))))
theorem wr_24 : ∀ w ∈ wsL_law_r24, w ∈ wsL_law := fun _ h => List.mem_append_left _ (List.mem_append_left _ (List.mem_append_left _ (List.mem_append_left _ (List.mem_append_left _ (List.mem_append_left _ (List.mem_append_left _ (List.mem_append_left _ (List.mem_append_right _ (List.mem_append_right _ (List.mem_append_right _ (List.mem_append_right _ (List.mem_append_right _ (List.mem_append_right _ (List.mem_append_right _ (List.mem_append_right _ (List.mem_append_right _ (List.mem_append_right _ (List.mem_append_right _ (List.mem_append_right _ (List.mem_append_right _ (List.mem_append_right _ (List.mem_append_right _ (List.mem_append_right _ (List.mem_append_right _ (List.mem_append_right _ (List.mem_append_right _ (List.mem_append_right _ (List.mem_append_right _ (List.mem_append_right _ (List.mem_append_right _ (List.mem_append_left _ h)))))))))))))))))))))))))))))))
theorem wr_25 : ∀ w ∈ wsL_law_r25, w ∈ wsL_law := fun _ h => List.mem_append_left _ (List.mem_append_left _ (List.mem_append_left _ (List.mem_append_left _ (List.mem_append_left _ (List.mem_append_left _ (List.mem_append_left _ (List.mem_append_left _ (List.mem_append_right _ (List.mem_append_right _ (List.mem_append_right _ (List.mem_append_right _ (List.mem_append_right _ (List.mem_append_right _ (List.mem_append_right _ (List.mem_append_right _ (List.mem_append_right _ (List.mem_append_right _ (List.mem_append_right _ (List.mem_append_right _ (List.mem_append_right _ (List.mem_append_right _ (List.mem_append_right _ (List.mem_append_right _ (List.mem_append_right _ (List.mem_append_right _ (List.mem_append_right _ (List.mem_append_right _ (List.mem_append_right _ (List.mem_append_right _ (List.mem_append_right _ (List.mem_append_right _ (List.mem_append_left _ h))))))))))))))))))))))))))))))))
theorem wr_26 : ∀ w ∈ wsL_law_r26, w ∈ wsL_law := fun _ h => List.mem_append_left _ (List.mem_append_left _ (List.mem_append_left _ (List.mem_append_left _ (List.mem_append_left _ (List.mem_append_left _ (List.mem_append_left _ (List.mem_append_left _ (List.mem_append_right _ (List.mem_append_right _ (List.mem_append_right _ (List.mem_append_right _ (List.mem_append_right _ (List.mem_append_right _ (List.mem_append_right _ (List.mem_append_right _ (List.mem_append_right _ (List.mem_append_right _ (List.mem_append_right _ (List.mem_append_right _ (List.mem_append_right _ (List.mem_append_right _ (List.mem_append_right _ (List.mem_append_right _ (List.mem_append_right _ (List.mem_append_right _ (List.mem_append_right _ (List.mem_append_right _ (List.mem_append_right _ (List.mem_append_right _ (List.mem_append_right _ (List.mem_append_right _ (List.mem_append_right _ (List.mem_append_left _ h)))))))))))))))))))))))))))))))))
theorem wr_27 : ∀ w ∈ wsL_law_r27, w ∈ wsL_law := fun _ h => List.mem_append_left _ (List.mem_append_left _ (List.mem_append_left _ (List.mem_append_left _ (List.mem_append_left _ (List.mem_append_left _ (List.mem_append_left _ (List.mem_append_left _ (List.mem_append_right _ (List.mem_append_right _ (List.mem_append_right _ (List.mem_append_right _ (List.mem_append_right _ (List.mem_append_right _ (List.mem_append_right _ (List.mem_append_right _ (List.mem_append_right _ (List.mem_append_right _ (List.mem_append_right _ (List.mem_append_right _ (List.mem_append_right _ (List.mem_append_right _ (List.mem_append_right _ (List.mem_append_right _ (List.mem_append_right _ (List.mem_append_right _ (List.mem_append_right _ (List.mem_append_right _ (List.mem_append_right _ (List.mem_append_right _ (List.mem_append_right _ (List.mem_append_right _ (List.mem_append_right _ (List.mem_append_right _ (List.mem_append_left _ h))))))))))))))))))))))))))))))))))
theorem wr_28 : ∀ w ∈ wsL_law_r28, w ∈ wsL_law := fun _ h => List.mem_append_left _ (List.mem_append_left _ (List.mem_append_left _ (List.mem_append_left _ (List.mem_append_left _ (List.mem_append_left _ (List.mem_append_left _ (List.mem_append_left _ (List.mem_append_right _ (List.mem_append_right _ (List.mem_append_right _ (List.mem_append_right _ (List.mem_append_right _ (List.mem_append_right _ (List.mem_append_right _ (List.mem_append_right _ (List.mem_append_right _ (List.mem_append_right _ (List.mem_append_right _ (List.mem_append_right _ (List.mem_append_right _ (List.mem_append_right _ (List.mem_append_right _ (List.mem_append_right _ (List.mem_append_right _ (List.mem_append_right _ (List.mem_append_right _ (List.mem_append_right _ (List.mem_append_right _ (List.mem_append_right _ (List.mem_append_right _ (List.mem_append_right _ (List.mem_append_right _ (List.mem_append_right _ (List.mem_append_right _ (List.mem_append_left _ h)))))))))))))))))))))))))))))))))))
theorem wr_29 : ∀ w ∈ wsL_law_r29, w ∈ wsL_law := fun _ h => List.mem_append_left _ (List.mem_append_left _ (List.mem_append_left _ (List.mem_append_left _ (List.mem_append_left _ (List.mem_append_left _ (List.mem_append_left _ (List.mem_append_left _ (List.mem_append_right _ (List.mem_append_right _ (List.mem_append_right _ (List.mem_append_right _ (List.mem_append_right _ (List.mem_append_right _ (List.mem_append_right _ (List.mem_append_right _ (List.mem_append_right _ (List.mem_append_right _ (List.mem_append_right _ (List.mem_append_right _ (List.mem_append_right _ (List.mem_append_right _ (List.mem_append_right _ (List.mem_append_right _ (List.mem_append_right _ (List.mem_append_right _ (List.mem_append_right _ (List.mem_append_right _ (List.mem_append_right _ (List.mem_append_right _ (List.mem_append_right _ (List.mem_append_right _ (List.mem_append_right _ (List.mem_append_right _ (List.mem_append_right _ (List.mem_append_right _ (List.mem_append_left _ h))))))))))))))))))))))))))))))))))))
theorem wr_30 : ∀ w ∈ wsL_law_r30, w ∈ wsL_law := fun _ h => List.mem_append_left _ (List.mem_append_left _ (List.mem_append_left _ (List.mem_append_left _ (List.mem_append_left _ (List.mem_append_left _ (List.mem_append_left _ (List.mem_append_left _ (List.mem_append_right _ (List.mem_append_right _ (List.mem_append_right _ (List.mem_append_right _ (List.mem_append_right _ (List.mem_append_right _ (List.mem_append_right _ (List.mem_append_right _ (List.mem_append_right _ (List.mem_append_right _ (List.mem_append_right _ (List.mem_append_right _ (List.mem_append_right _ (List.mem_append_right _ (List.mem_append_right _ (List.mem_append_right _ (List.mem_append_right _ (List.mem_append_right _ (List.mem_append_right _ (List.mem_append_right _ (List.mem_append_right _ (List.mem_append_right _ (List.mem_append_right _ (List.mem_append_right _ (List.mem_append_right _ (List.mem_append_right _ (List.mem_append_right _ (List.mem_append_right _ (List.mem_append_right _ (List.mem_append_left _ h)))))))))))))))))))))))))))))))))))))
theorem wr_31 : ∀ w ∈ wsL_law_r31, w ∈ wsL_law := fun _ h => List.mem_append_left _ (List.mem_append_left _ (List.mem_append_left _ (List.mem_append_left _ (List.mem_append_left _ (List.mem_append_left _ (List.mem_append_left _ (List.mem_append_left _ (List.mem_append_right _ (List.mem_append_right _ (List.mem_append_right _ (List.mem_append_right _ (List.mem_append_right _ (List.mem_append_right _ (List.mem_append_right _ (List.mem_append_right _ (List.mem_append_right _ (List.mem_append_right _ (List.mem_append_right _ (List.mem_append_right _ (List.mem_append_right _ (List.mem_append_right _ (List.mem_append_right _ (List.mem_append_right _ (List.mem_append_right _ (List.mem_append_right _ (List.mem_append_right _ (List.mem_append_right _ (List.mem_append_right _ (List.mem_append_right _ (List.mem_append_right _ (List.mem_append_right _ (List.mem_append_right _ (List.mem_append_right _ (List.mem_append_right _ (List.mem_append_right _ (List.mem_append_right _ (List.mem_append_right _ (h))))))))))))))))))))))))))))))))))))))
theorem wm_1_2 : Cond.initialized RX5 ∈ wsL_law := wr_1 _ (List.mem_of_getElem? (i := 2) rfl)
theorem wm_1_5 : Cond.initialized RX6 ∈ wsL_law := wr_1 _ (List.mem_of_getElem? (i := 5) rfl)
theorem wm_1_14 : Cond.initialized RX2 ∈ wsL_law := wr_1 _ (List.mem_of_getElem? (i := 14) rfl)
theorem wm_1_15 : Cond.fieldLink RX5 10 "RegionRestarts" "graph" "LRegionRestarts$Graph;" ∈ wsL_law := wr_1 _ (List.mem_of_getElem? (i := 15) rfl)
theorem wm_1_18 : Cond.initialized RX3 ∈ wsL_law := wr_1 _ (List.mem_of_getElem? (i := 18) rfl)
theorem wm_1_19 : Cond.fieldLink RX5 19 "RegionRestarts" "plan" "LRegionRestarts$Plan;" ∈ wsL_law := wr_1 _ (List.mem_of_getElem? (i := 19) rfl)
theorem wm_1_22 : Cond.initialized RX0 ∈ wsL_law := wr_1 _ (List.mem_of_getElem? (i := 22) rfl)
theorem wm_1_23 : Cond.fieldLink RX5 26 "RegionRestarts" "causes" "LRegionRestarts$Causes;" ∈ wsL_law := wr_1 _ (List.mem_of_getElem? (i := 23) rfl)
theorem wm_2_1 : Cond.fieldLink RX5 30 "RegionRestarts" "nodeIsThere" "[Z" ∈ wsL_law := wr_2 _ (List.mem_of_getElem? (i := 1) rfl)
theorem wm_2_7 : Cond.fieldLink RX2 11 "RegionRestarts$Graph" "tasks" "[LRegionRestarts$Task;" ∈ wsL_law := wr_2 _ (List.mem_of_getElem? (i := 7) rfl)
theorem wm_2_9 : Cond.fieldLink RX2 19 "RegionRestarts$Graph" "channels" "[LRegionRestarts$Channel;" ∈ wsL_law := wr_2 _ (List.mem_of_getElem? (i := 9) rfl)
theorem wm_2_11 : Cond.initialized RX4 ∈ wsL_law := wr_2 _ (List.mem_of_getElem? (i := 11) rfl)
theorem wm_2_13 : Cond.initialized RX1 ∈ wsL_law := wr_2 _ (List.mem_of_getElem? (i := 13) rfl)
theorem wm_2_18 : Cond.fieldLink RX4 9 "RegionRestarts$Task" "outRows" "[I" ∈ wsL_law := wr_2 _ (List.mem_of_getElem? (i := 18) rfl)
theorem wm_2_19 : Cond.fieldLink RX4 15 "RegionRestarts$Task" "asideNumbers" "[I" ∈ wsL_law := wr_2 _ (List.mem_of_getElem? (i := 19) rfl)
theorem wm_2_23 : Cond.fieldLink RX1 9 "RegionRestarts$Channel" "rows" "[I" ∈ wsL_law := wr_2 _ (List.mem_of_getElem? (i := 23) rfl)
theorem wm_3_3 : Cond.fieldLink RX3 9 "RegionRestarts$Plan" "values" "[I" ∈ wsL_law := wr_3 _ (List.mem_of_getElem? (i := 3) rfl)
theorem wm_3_4 : Cond.fieldLink RX3 15 "RegionRestarts$Plan" "channels" "[I" ∈ wsL_law := wr_3 _ (List.mem_of_getElem? (i := 4) rfl)
theorem wm_3_8 : Cond.fieldLink RX0 9 "RegionRestarts$Causes" "tasks" "[I" ∈ wsL_law := wr_3 _ (List.mem_of_getElem? (i := 8) rfl)
theorem wm_3_9 : Cond.fieldLink RX0 15 "RegionRestarts$Causes" "times" "[I" ∈ wsL_law := wr_3 _ (List.mem_of_getElem? (i := 9) rfl)
theorem wm_3_10 : Cond.fieldLink RX0 18 "RegionRestarts$Causes" "kinds" "[I" ∈ wsL_law := wr_3 _ (List.mem_of_getElem? (i := 10) rfl)
theorem wm_3_11 : Cond.methodLink RX5 34 yX5_startAnew ∈ wsL_law := wr_3 _ (List.mem_of_getElem? (i := 11) rfl)
theorem wm_3_12 : Cond.instanceMethod yX5_startAnew ∈ wsL_law := wr_3 _ (List.mem_of_getElem? (i := 12) rfl)
theorem wm_3_13 : Cond.selects RX5 yX5_startAnew yX5_startAnew ∈ wsL_law := wr_3 _ (List.mem_of_getElem? (i := 13) rfl)
theorem wm_3_14 : Cond.code yX5_startAnew cX5_startAnew 2 none ∈ wsL_law := wr_3 _ (List.mem_of_getElem? (i := 14) rfl)
theorem wm_3_15 : Cond.fieldLink RX5 49 "RegionRestarts$Graph" "taskCount" "I" ∈ wsL_law := wr_3 _ (List.mem_of_getElem? (i := 15) rfl)
theorem wm_3_16 : Cond.fieldLink RX5 69 "RegionRestarts$Graph" "channelCount" "I" ∈ wsL_law := wr_3 _ (List.mem_of_getElem? (i := 16) rfl)
theorem wm_3_17 : Cond.fieldLink RX5 237 "RegionRestarts$Causes" "count" "I" ∈ wsL_law := wr_3 _ (List.mem_of_getElem? (i := 17) rfl)
theorem wm_3_18 : Cond.fieldLink RX5 79 "RegionRestarts" "bound" "I" ∈ wsL_law := wr_3 _ (List.mem_of_getElem? (i := 18) rfl)
theorem wm_3_19 : Cond.fieldLink RX5 82 "RegionRestarts" "setsAside" "Z" ∈ wsL_law := wr_3 _ (List.mem_of_getElem? (i := 19) rfl)
theorem wm_3_20 : Cond.fieldLink RX5 88 "RegionRestarts" "time" "I" ∈ wsL_law := wr_3 _ (List.mem_of_getElem? (i := 20) rfl)
theorem wm_3_21 : Cond.fieldLink RX5 254 "RegionRestarts" "drawn" "J" ∈ wsL_law := wr_3 _ (List.mem_of_getElem? (i := 21) rfl)
theorem wm_3_22 : Cond.fieldLink RX5 178 "RegionRestarts" "marks" "I" ∈ wsL_law := wr_3 _ (List.mem_of_getElem? (i := 22) rfl)
theorem wm_3_23 : Cond.fieldLink RX5 110 "RegionRestarts" "steps" "I" ∈ wsL_law := wr_3 _ (List.mem_of_getElem? (i := 23) rfl)
theorem wm_4_0 : Cond.fieldLink RX5 251 "RegionRestarts" "beginnings" "I" ∈ wsL_law := wr_4 _ (List.mem_of_getElem? (i := 0) rfl)
theorem wm_4_1 : Cond.fieldLink RX5 45 "RegionRestarts" "stepWasTried" "Z" ∈ wsL_law := wr_4 _ (List.mem_of_getElem? (i := 1) rfl)
theorem wm_4_2 : Cond.fieldLink RX5 85 "RegionRestarts" "ended" "Z" ∈ wsL_law := wr_4 _ (List.mem_of_getElem? (i := 2) rfl)
theorem wm_4_7 : Cond.fieldLink RX6 7 "RegionRestartsModel" "sort" "[I" ∈ wsL_law := wr_4 _ (List.mem_of_getElem? (i := 7) rfl)
theorem wm_4_8 : Cond.fieldLink RX6 13 "RegionRestartsModel" "number" "[I" ∈ wsL_law := wr_4 _ (List.mem_of_getElem? (i := 8) rfl)
theorem wm_4_9 : Cond.fieldLink RX6 16 "RegionRestartsModel" "node" "[I" ∈ wsL_law := wr_4 _ (List.mem_of_getElem? (i := 9) rfl)
theorem wm_4_10 : Cond.fieldLink RX6 19 "RegionRestartsModel" "place" "[I" ∈ wsL_law := wr_4 _ (List.mem_of_getElem? (i := 10) rfl)
theorem wm_4_11 : Cond.fieldLink RX6 22 "RegionRestartsModel" "sum" "[I" ∈ wsL_law := wr_4 _ (List.mem_of_getElem? (i := 11) rfl)
theorem wm_4_12 : Cond.fieldLink RX6 25 "RegionRestartsModel" "outs" "[I" ∈ wsL_law := wr_4 _ (List.mem_of_getElem? (i := 12) rfl)
theorem wm_4_13 : Cond.fieldLink RX6 28 "RegionRestartsModel" "out" "[I" ∈ wsL_law := wr_4 _ (List.mem_of_getElem? (i := 13) rfl)
theorem wm_4_14 : Cond.fieldLink RX6 31 "RegionRestartsModel" "poisons" "[I" ∈ wsL_law := wr_4 _ (List.mem_of_getElem? (i := 14) rfl)
theorem wm_4_15 : Cond.fieldLink RX6 34 "RegionRestartsModel" "width" "[I" ∈ wsL_law := wr_4 _ (List.mem_of_getElem? (i := 15) rfl)
theorem wm_4_16 : Cond.fieldLink RX6 37 "RegionRestartsModel" "fails" "[I" ∈ wsL_law := wr_4 _ (List.mem_of_getElem? (i := 16) rfl)
theorem wm_4_17 : Cond.fieldLink RX6 40 "RegionRestartsModel" "until" "[I" ∈ wsL_law := wr_4 _ (List.mem_of_getElem? (i := 17) rfl)
theorem wm_4_18 : Cond.fieldLink RX6 43 "RegionRestartsModel" "asides" "[I" ∈ wsL_law := wr_4 _ (List.mem_of_getElem? (i := 18) rfl)
theorem wm_4_19 : Cond.fieldLink RX6 46 "RegionRestartsModel" "asideRow" "[I" ∈ wsL_law := wr_4 _ (List.mem_of_getElem? (i := 19) rfl)
theorem wm_4_20 : Cond.fieldLink RX6 49 "RegionRestartsModel" "from" "[I" ∈ wsL_law := wr_4 _ (List.mem_of_getElem? (i := 20) rfl)
theorem wm_4_21 : Cond.fieldLink RX6 52 "RegionRestartsModel" "to" "[I" ∈ wsL_law := wr_4 _ (List.mem_of_getElem? (i := 21) rfl)
theorem wm_4_22 : Cond.fieldLink RX6 55 "RegionRestartsModel" "kept" "[Z" ∈ wsL_law := wr_4 _ (List.mem_of_getElem? (i := 22) rfl)
theorem wm_4_23 : Cond.fieldLink RX6 59 "RegionRestartsModel" "rows" "[I" ∈ wsL_law := wr_4 _ (List.mem_of_getElem? (i := 23) rfl)
theorem wm_5_0 : Cond.fieldLink RX6 62 "RegionRestartsModel" "has" "[I" ∈ wsL_law := wr_5 _ (List.mem_of_getElem? (i := 0) rfl)
theorem wm_5_1 : Cond.fieldLink RX6 65 "RegionRestartsModel" "gave" "[I" ∈ wsL_law := wr_5 _ (List.mem_of_getElem? (i := 1) rfl)
theorem wm_5_2 : Cond.fieldLink RX6 68 "RegionRestartsModel" "took" "[I" ∈ wsL_law := wr_5 _ (List.mem_of_getElem? (i := 2) rfl)
theorem wm_5_3 : Cond.fieldLink RX6 71 "RegionRestartsModel" "seen" "[I" ∈ wsL_law := wr_5 _ (List.mem_of_getElem? (i := 3) rfl)
theorem wm_5_4 : Cond.fieldLink RX6 74 "RegionRestartsModel" "lost" "[Z" ∈ wsL_law := wr_5 _ (List.mem_of_getElem? (i := 4) rfl)
theorem wm_5_5 : Cond.fieldLink RX6 77 "RegionRestartsModel" "lostTo" "[I" ∈ wsL_law := wr_5 _ (List.mem_of_getElem? (i := 5) rfl)
theorem wm_5_6 : Cond.fieldLink RX6 80 "RegionRestartsModel" "markPlace" "[I" ∈ wsL_law := wr_5 _ (List.mem_of_getElem? (i := 6) rfl)
theorem wm_5_7 : Cond.fieldLink RX6 83 "RegionRestartsModel" "markSum" "[I" ∈ wsL_law := wr_5 _ (List.mem_of_getElem? (i := 7) rfl)
theorem wm_5_8 : Cond.fieldLink RX6 86 "RegionRestartsModel" "markOuts" "[I" ∈ wsL_law := wr_5 _ (List.mem_of_getElem? (i := 8) rfl)
theorem wm_5_9 : Cond.fieldLink RX6 89 "RegionRestartsModel" "markHas" "[I" ∈ wsL_law := wr_5 _ (List.mem_of_getElem? (i := 9) rfl)
theorem wm_5_10 : Cond.fieldLink RX6 92 "RegionRestartsModel" "markGave" "[I" ∈ wsL_law := wr_5 _ (List.mem_of_getElem? (i := 10) rfl)
theorem wm_5_11 : Cond.fieldLink RX6 95 "RegionRestartsModel" "markTook" "[I" ∈ wsL_law := wr_5 _ (List.mem_of_getElem? (i := 11) rfl)
theorem wm_5_12 : Cond.fieldLink RX6 98 "RegionRestartsModel" "isGone" "[Z" ∈ wsL_law := wr_5 _ (List.mem_of_getElem? (i := 12) rfl)
theorem wm_5_13 : Cond.fieldLink RX6 101 "RegionRestartsModel" "causeTask" "[I" ∈ wsL_law := wr_5 _ (List.mem_of_getElem? (i := 13) rfl)
theorem wm_5_14 : Cond.fieldLink RX6 104 "RegionRestartsModel" "causeTime" "[I" ∈ wsL_law := wr_5 _ (List.mem_of_getElem? (i := 14) rfl)
theorem wm_5_15 : Cond.fieldLink RX6 107 "RegionRestartsModel" "causeWhy" "[I" ∈ wsL_law := wr_5 _ (List.mem_of_getElem? (i := 15) rfl)
theorem wm_5_16 : Cond.fieldLink RX6 110 "RegionRestartsModel" "doneNow" "[Z" ∈ wsL_law := wr_5 _ (List.mem_of_getElem? (i := 16) rfl)
theorem wm_5_17 : Cond.fieldLink RX6 113 "RegionRestartsModel" "oldHas" "[I" ∈ wsL_law := wr_5 _ (List.mem_of_getElem? (i := 17) rfl)
theorem wm_5_18 : Cond.fieldLink RX6 116 "RegionRestartsModel" "oldGave" "[I" ∈ wsL_law := wr_5 _ (List.mem_of_getElem? (i := 18) rfl)
theorem wm_5_19 : Cond.fieldLink RX6 119 "RegionRestartsModel" "oldTook" "[I" ∈ wsL_law := wr_5 _ (List.mem_of_getElem? (i := 19) rfl)
theorem wm_5_20 : Cond.fieldLink RX6 122 "RegionRestartsModel" "region" "[Z" ∈ wsL_law := wr_5 _ (List.mem_of_getElem? (i := 20) rfl)
theorem wm_5_21 : Cond.fieldLink RX6 125 "RegionRestartsModel" "unsteady" "[Z" ∈ wsL_law := wr_5 _ (List.mem_of_getElem? (i := 21) rfl)
theorem wm_5_22 : Cond.methodLink RX6 128 yX6_begin ∈ wsL_law := wr_5 _ (List.mem_of_getElem? (i := 22) rfl)
theorem wm_5_23 : Cond.instanceMethod yX6_begin ∈ wsL_law := wr_5 _ (List.mem_of_getElem? (i := 23) rfl)
theorem wm_6_0 : Cond.selects RX6 yX6_begin yX6_begin ∈ wsL_law := wr_6 _ (List.mem_of_getElem? (i := 0) rfl)
theorem wm_6_1 : Cond.code yX6_begin cX6_begin 2 none ∈ wsL_law := wr_6 _ (List.mem_of_getElem? (i := 1) rfl)
theorem wm_6_2 : Cond.fieldLink RX6 131 "RegionRestartsModel" "tasks" "I" ∈ wsL_law := wr_6 _ (List.mem_of_getElem? (i := 2) rfl)
theorem wm_6_3 : Cond.fieldLink RX6 135 "RegionRestartsModel" "channels" "I" ∈ wsL_law := wr_6 _ (List.mem_of_getElem? (i := 3) rfl)
theorem wm_6_4 : Cond.fieldLink RX6 138 "RegionRestartsModel" "bound" "I" ∈ wsL_law := wr_6 _ (List.mem_of_getElem? (i := 4) rfl)
theorem wm_6_5 : Cond.fieldLink RX6 141 "RegionRestartsModel" "setsAside" "Z" ∈ wsL_law := wr_6 _ (List.mem_of_getElem? (i := 5) rfl)
theorem wm_6_6 : Cond.fieldLink RX6 145 "RegionRestartsModel" "drawn" "I" ∈ wsL_law := wr_6 _ (List.mem_of_getElem? (i := 6) rfl)
theorem wm_6_7 : Cond.fieldLink RX6 148 "RegionRestartsModel" "time" "I" ∈ wsL_law := wr_6 _ (List.mem_of_getElem? (i := 7) rfl)
theorem wm_6_8 : Cond.fieldLink RX6 151 "RegionRestartsModel" "steps" "I" ∈ wsL_law := wr_6 _ (List.mem_of_getElem? (i := 8) rfl)
theorem wm_6_9 : Cond.fieldLink RX6 154 "RegionRestartsModel" "begun" "Z" ∈ wsL_law := wr_6 _ (List.mem_of_getElem? (i := 9) rfl)
theorem wm_6_10 : Cond.fieldLink RX6 157 "RegionRestartsModel" "marks" "I" ∈ wsL_law := wr_6 _ (List.mem_of_getElem? (i := 10) rfl)
theorem wm_6_11 : Cond.fieldLink RX6 160 "RegionRestartsModel" "causes" "I" ∈ wsL_law := wr_6 _ (List.mem_of_getElem? (i := 11) rfl)
theorem wm_6_12 : Cond.fieldLink RX6 163 "RegionRestartsModel" "ended" "Z" ∈ wsL_law := wr_6 _ (List.mem_of_getElem? (i := 12) rfl)
theorem wm_6_13 : Cond.fieldLink RX6 166 "RegionRestartsModel" "again" "I" ∈ wsL_law := wr_6 _ (List.mem_of_getElem? (i := 13) rfl)
theorem wm_6_18 : Cond.methodLink RX5 37 yX5_isNode ∈ wsL_law := wr_6 _ (List.mem_of_getElem? (i := 18) rfl)
theorem wm_6_19 : Cond.static yX5_isNode ∈ wsL_law := wr_6 _ (List.mem_of_getElem? (i := 19) rfl)
theorem wm_6_20 : Cond.code yX5_isNode cX5_isNode 1 (some .boolean) ∈ wsL_law := wr_6 _ (List.mem_of_getElem? (i := 20) rfl)
theorem wm_6_21 : Cond.methodLink RX5 41 yX5_mayBe ∈ wsL_law := wr_6 _ (List.mem_of_getElem? (i := 21) rfl)
theorem wm_6_22 : Cond.static yX5_mayBe ∈ wsL_law := wr_6 _ (List.mem_of_getElem? (i := 22) rfl)
theorem wm_6_23 : Cond.code yX5_mayBe cX5_mayBe 2 (some .boolean) ∈ wsL_law := wr_6 _ (List.mem_of_getElem? (i := 23) rfl)
theorem wm_7_0 : Cond.methodLink RX5 53 yX2_addTask ∈ wsL_law := wr_7 _ (List.mem_of_getElem? (i := 0) rfl)
theorem wm_7_1 : Cond.instanceMethod yX2_addTask ∈ wsL_law := wr_7 _ (List.mem_of_getElem? (i := 1) rfl)
theorem wm_7_2 : Cond.selects RX2 yX2_addTask yX2_addTask ∈ wsL_law := wr_7 _ (List.mem_of_getElem? (i := 2) rfl)
theorem wm_7_3 : Cond.code yX2_addTask cX2_addTask 4 (some .int) ∈ wsL_law := wr_7 _ (List.mem_of_getElem? (i := 3) rfl)
theorem wm_7_4 : Cond.fieldLink RX2 25 "RegionRestarts$Graph" "taskCount" "I" ∈ wsL_law := wr_7 _ (List.mem_of_getElem? (i := 4) rfl)
theorem wm_7_5 : Cond.methodLink RX2 32 yX4_set ∈ wsL_law := wr_7 _ (List.mem_of_getElem? (i := 5) rfl)
theorem wm_7_6 : Cond.instanceMethod yX4_set ∈ wsL_law := wr_7 _ (List.mem_of_getElem? (i := 6) rfl)
theorem wm_7_7 : Cond.selects RX4 yX4_set yX4_set ∈ wsL_law := wr_7 _ (List.mem_of_getElem? (i := 7) rfl)
theorem wm_7_8 : Cond.code yX4_set cX4_set 4 none ∈ wsL_law := wr_7 _ (List.mem_of_getElem? (i := 8) rfl)
theorem wm_7_9 : Cond.fieldLink RX4 18 "RegionRestarts$Task" "sort" "I" ∈ wsL_law := wr_7 _ (List.mem_of_getElem? (i := 9) rfl)
theorem wm_7_10 : Cond.fieldLink RX4 22 "RegionRestarts$Task" "a" "I" ∈ wsL_law := wr_7 _ (List.mem_of_getElem? (i := 10) rfl)
theorem wm_7_11 : Cond.fieldLink RX4 25 "RegionRestarts$Task" "node" "I" ∈ wsL_law := wr_7 _ (List.mem_of_getElem? (i := 11) rfl)
theorem wm_7_12 : Cond.fieldLink RX4 28 "RegionRestarts$Task" "givers" "I" ∈ wsL_law := wr_7 _ (List.mem_of_getElem? (i := 12) rfl)
theorem wm_7_13 : Cond.fieldLink RX4 31 "RegionRestarts$Task" "poisonValue" "I" ∈ wsL_law := wr_7 _ (List.mem_of_getElem? (i := 13) rfl)
theorem wm_7_14 : Cond.fieldLink RX4 34 "RegionRestarts$Task" "width" "I" ∈ wsL_law := wr_7 _ (List.mem_of_getElem? (i := 14) rfl)
theorem wm_7_15 : Cond.fieldLink RX4 37 "RegionRestarts$Task" "fails" "I" ∈ wsL_law := wr_7 _ (List.mem_of_getElem? (i := 15) rfl)
theorem wm_7_16 : Cond.fieldLink RX4 40 "RegionRestarts$Task" "waitsTill" "I" ∈ wsL_law := wr_7 _ (List.mem_of_getElem? (i := 16) rfl)
theorem wm_7_17 : Cond.fieldLink RX4 43 "RegionRestarts$Task" "asideCount" "I" ∈ wsL_law := wr_7 _ (List.mem_of_getElem? (i := 17) rfl)
theorem wm_7_18 : Cond.fieldLink RX4 46 "RegionRestarts$Task" "place" "I" ∈ wsL_law := wr_7 _ (List.mem_of_getElem? (i := 18) rfl)
theorem wm_7_19 : Cond.fieldLink RX4 49 "RegionRestarts$Task" "sum" "I" ∈ wsL_law := wr_7 _ (List.mem_of_getElem? (i := 19) rfl)
theorem wm_7_20 : Cond.fieldLink RX4 52 "RegionRestarts$Task" "outCount" "I" ∈ wsL_law := wr_7 _ (List.mem_of_getElem? (i := 20) rfl)
theorem wm_7_21 : Cond.methodLink RX4 55 yX4_keepAsMark ∈ wsL_law := wr_7 _ (List.mem_of_getElem? (i := 21) rfl)
theorem wm_7_22 : Cond.instanceMethod yX4_keepAsMark ∈ wsL_law := wr_7 _ (List.mem_of_getElem? (i := 22) rfl)
theorem wm_7_23 : Cond.selects RX4 yX4_keepAsMark yX4_keepAsMark ∈ wsL_law := wr_7 _ (List.mem_of_getElem? (i := 23) rfl)
theorem wm_8_0 : Cond.code yX4_keepAsMark cX4_keepAsMark 1 none ∈ wsL_law := wr_8 _ (List.mem_of_getElem? (i := 0) rfl)
theorem wm_8_1 : Cond.fieldLink RX4 58 "RegionRestarts$Task" "markPlace" "I" ∈ wsL_law := wr_8 _ (List.mem_of_getElem? (i := 1) rfl)
theorem wm_8_2 : Cond.fieldLink RX4 61 "RegionRestarts$Task" "markSum" "I" ∈ wsL_law := wr_8 _ (List.mem_of_getElem? (i := 2) rfl)
theorem wm_8_3 : Cond.fieldLink RX4 64 "RegionRestarts$Task" "markOutCount" "I" ∈ wsL_law := wr_8 _ (List.mem_of_getElem? (i := 3) rfl)
theorem wm_8_8 : Cond.methodLink RX6 173 yX6_noNode ∈ wsL_law := wr_8 _ (List.mem_of_getElem? (i := 8) rfl)
theorem wm_8_9 : Cond.instanceMethod yX6_noNode ∈ wsL_law := wr_8 _ (List.mem_of_getElem? (i := 9) rfl)
theorem wm_8_10 : Cond.selects RX6 yX6_noNode yX6_noNode ∈ wsL_law := wr_8 _ (List.mem_of_getElem? (i := 10) rfl)
theorem wm_8_11 : Cond.code yX6_noNode cX6_noNode 2 (some .boolean) ∈ wsL_law := wr_8 _ (List.mem_of_getElem? (i := 11) rfl)
theorem wm_8_12 : Cond.methodLink RX6 169 yX6_in ∈ wsL_law := wr_8 _ (List.mem_of_getElem? (i := 12) rfl)
theorem wm_8_13 : Cond.static yX6_in ∈ wsL_law := wr_8 _ (List.mem_of_getElem? (i := 13) rfl)
theorem wm_8_14 : Cond.code yX6_in cX6_in 3 (some .boolean) ∈ wsL_law := wr_8 _ (List.mem_of_getElem? (i := 14) rfl)
theorem wm_8_19 : Cond.fieldLink RX5 60 "RegionRestarts$Graph" "tasks" "[LRegionRestarts$Task;" ∈ wsL_law := wr_8 _ (List.mem_of_getElem? (i := 19) rfl)
theorem wm_8_20 : Cond.fieldLink RX5 64 "RegionRestarts$Task" "sort" "I" ∈ wsL_law := wr_8 _ (List.mem_of_getElem? (i := 20) rfl)
theorem wm_8_21 : Cond.methodLink RX5 57 yX2_hasTask ∈ wsL_law := wr_8 _ (List.mem_of_getElem? (i := 21) rfl)
theorem wm_8_22 : Cond.instanceMethod yX2_hasTask ∈ wsL_law := wr_8 _ (List.mem_of_getElem? (i := 22) rfl)
theorem wm_8_23 : Cond.selects RX2 yX2_hasTask yX2_hasTask ∈ wsL_law := wr_8 _ (List.mem_of_getElem? (i := 23) rfl)
theorem wm_9_0 : Cond.code yX2_hasTask cX2_hasTask 2 (some .boolean) ∈ wsL_law := wr_9 _ (List.mem_of_getElem? (i := 0) rfl)
theorem wm_9_1 : Cond.methodLink RX5 72 yX2_addChannel ∈ wsL_law := wr_9 _ (List.mem_of_getElem? (i := 1) rfl)
theorem wm_9_2 : Cond.instanceMethod yX2_addChannel ∈ wsL_law := wr_9 _ (List.mem_of_getElem? (i := 2) rfl)
theorem wm_9_3 : Cond.selects RX2 yX2_addChannel yX2_addChannel ∈ wsL_law := wr_9 _ (List.mem_of_getElem? (i := 3) rfl)
theorem wm_9_4 : Cond.code yX2_addChannel cX2_addChannel 4 (some .int) ∈ wsL_law := wr_9 _ (List.mem_of_getElem? (i := 4) rfl)
theorem wm_9_5 : Cond.fieldLink RX2 29 "RegionRestarts$Graph" "channelCount" "I" ∈ wsL_law := wr_9 _ (List.mem_of_getElem? (i := 5) rfl)
theorem wm_9_6 : Cond.fieldLink RX2 39 "RegionRestarts$Task" "givers" "I" ∈ wsL_law := wr_9 _ (List.mem_of_getElem? (i := 6) rfl)
theorem wm_9_7 : Cond.methodLink RX2 36 yX1_set ∈ wsL_law := wr_9 _ (List.mem_of_getElem? (i := 7) rfl)
theorem wm_9_8 : Cond.instanceMethod yX1_set ∈ wsL_law := wr_9 _ (List.mem_of_getElem? (i := 8) rfl)
theorem wm_9_9 : Cond.selects RX1 yX1_set yX1_set ∈ wsL_law := wr_9 _ (List.mem_of_getElem? (i := 9) rfl)
theorem wm_9_10 : Cond.code yX1_set cX1_set 4 none ∈ wsL_law := wr_9 _ (List.mem_of_getElem? (i := 10) rfl)
theorem wm_9_11 : Cond.fieldLink RX1 15 "RegionRestarts$Channel" "from" "I" ∈ wsL_law := wr_9 _ (List.mem_of_getElem? (i := 11) rfl)
theorem wm_9_12 : Cond.fieldLink RX1 19 "RegionRestarts$Channel" "to" "I" ∈ wsL_law := wr_9 _ (List.mem_of_getElem? (i := 12) rfl)
theorem wm_9_13 : Cond.fieldLink RX1 22 "RegionRestarts$Channel" "isKept" "Z" ∈ wsL_law := wr_9 _ (List.mem_of_getElem? (i := 13) rfl)
theorem wm_9_14 : Cond.fieldLink RX1 26 "RegionRestarts$Channel" "held" "I" ∈ wsL_law := wr_9 _ (List.mem_of_getElem? (i := 14) rfl)
theorem wm_9_15 : Cond.fieldLink RX1 29 "RegionRestarts$Channel" "given" "I" ∈ wsL_law := wr_9 _ (List.mem_of_getElem? (i := 15) rfl)
theorem wm_9_16 : Cond.fieldLink RX1 32 "RegionRestarts$Channel" "taken" "I" ∈ wsL_law := wr_9 _ (List.mem_of_getElem? (i := 16) rfl)
theorem wm_9_17 : Cond.fieldLink RX1 35 "RegionRestarts$Channel" "seen" "I" ∈ wsL_law := wr_9 _ (List.mem_of_getElem? (i := 17) rfl)
theorem wm_9_18 : Cond.methodLink RX1 38 yX1_keepAsMark ∈ wsL_law := wr_9 _ (List.mem_of_getElem? (i := 18) rfl)
theorem wm_9_19 : Cond.instanceMethod yX1_keepAsMark ∈ wsL_law := wr_9 _ (List.mem_of_getElem? (i := 19) rfl)
theorem wm_9_20 : Cond.selects RX1 yX1_keepAsMark yX1_keepAsMark ∈ wsL_law := wr_9 _ (List.mem_of_getElem? (i := 20) rfl)
theorem wm_9_21 : Cond.code yX1_keepAsMark cX1_keepAsMark 1 none ∈ wsL_law := wr_9 _ (List.mem_of_getElem? (i := 21) rfl)
theorem wm_9_22 : Cond.fieldLink RX1 41 "RegionRestarts$Channel" "markHeld" "I" ∈ wsL_law := wr_9 _ (List.mem_of_getElem? (i := 22) rfl)
theorem wm_9_23 : Cond.fieldLink RX1 44 "RegionRestarts$Channel" "markGiven" "I" ∈ wsL_law := wr_9 _ (List.mem_of_getElem? (i := 23) rfl)
theorem wm_10_0 : Cond.fieldLink RX1 47 "RegionRestarts$Channel" "markTaken" "I" ∈ wsL_law := wr_10 _ (List.mem_of_getElem? (i := 0) rfl)
theorem wm_10_1 : Cond.fieldLink RX1 50 "RegionRestarts$Channel" "lost" "I" ∈ wsL_law := wr_10 _ (List.mem_of_getElem? (i := 1) rfl)
theorem wm_10_6 : Cond.methodLink RX6 177 yX6_noTask ∈ wsL_law := wr_10 _ (List.mem_of_getElem? (i := 6) rfl)
theorem wm_10_7 : Cond.instanceMethod yX6_noTask ∈ wsL_law := wr_10 _ (List.mem_of_getElem? (i := 7) rfl)
theorem wm_10_8 : Cond.selects RX6 yX6_noTask yX6_noTask ∈ wsL_law := wr_10 _ (List.mem_of_getElem? (i := 8) rfl)
theorem wm_10_9 : Cond.code yX6_noTask cX6_noTask 2 (some .boolean) ∈ wsL_law := wr_10 _ (List.mem_of_getElem? (i := 9) rfl)
theorem wm_10_14 : Cond.fieldLink RX5 76 "RegionRestarts$Task" "poisonValue" "I" ∈ wsL_law := wr_10 _ (List.mem_of_getElem? (i := 14) rfl)
theorem wm_11_7 : Cond.fieldLink RX5 99 "RegionRestarts$Plan" "throwsInstead" "Z" ∈ wsL_law := wr_11 _ (List.mem_of_getElem? (i := 7) rfl)
theorem wm_11_8 : Cond.fieldLink RX5 117 "RegionRestarts$Plan" "count" "I" ∈ wsL_law := wr_11 _ (List.mem_of_getElem? (i := 8) rfl)
theorem wm_11_9 : Cond.methodLink RX5 91 yX4_waitsStill ∈ wsL_law := wr_11 _ (List.mem_of_getElem? (i := 9) rfl)
theorem wm_11_10 : Cond.instanceMethod yX4_waitsStill ∈ wsL_law := wr_11 _ (List.mem_of_getElem? (i := 10) rfl)
theorem wm_11_11 : Cond.selects RX4 yX4_waitsStill yX4_waitsStill ∈ wsL_law := wr_11 _ (List.mem_of_getElem? (i := 11) rfl)
theorem wm_11_12 : Cond.code yX4_waitsStill cX4_waitsStill 2 (some .int) ∈ wsL_law := wr_11 _ (List.mem_of_getElem? (i := 12) rfl)
theorem wm_11_13 : Cond.methodLink RX4 67 Lib.Math.max.name ∈ wsL_law := wr_11 _ (List.mem_of_getElem? (i := 13) rfl)
theorem wm_11_14 : Cond.static Lib.Math.max.name ∈ wsL_law := wr_11 _ (List.mem_of_getElem? (i := 14) rfl)
theorem wm_11_15 : Cond.initialized "java/lang/Math" ∈ wsL_law := wr_11 _ (List.mem_of_getElem? (i := 15) rfl)
theorem wm_11_16 : Cond.code Lib.Math.max.name Lib.Math.max.code 2 (some .int) ∈ wsL_law := wr_11 _ (List.mem_of_getElem? (i := 16) rfl)
theorem wm_11_17 : Cond.methodLink RX5 95 yX3_fill ∈ wsL_law := wr_11 _ (List.mem_of_getElem? (i := 17) rfl)
theorem wm_11_18 : Cond.instanceMethod yX3_fill ∈ wsL_law := wr_11 _ (List.mem_of_getElem? (i := 18) rfl)
theorem wm_11_19 : Cond.selects RX3 yX3_fill yX3_fill ∈ wsL_law := wr_11 _ (List.mem_of_getElem? (i := 19) rfl)
theorem wm_11_20 : Cond.code yX3_fill cX3_fill 3 none ∈ wsL_law := wr_11 _ (List.mem_of_getElem? (i := 20) rfl)
theorem wm_11_21 : Cond.fieldLink RX3 18 "RegionRestarts$Plan" "count" "I" ∈ wsL_law := wr_11 _ (List.mem_of_getElem? (i := 21) rfl)
theorem wm_11_22 : Cond.fieldLink RX3 22 "RegionRestarts$Plan" "throwsInstead" "Z" ∈ wsL_law := wr_11 _ (List.mem_of_getElem? (i := 22) rfl)
theorem wm_11_23 : Cond.fieldLink RX3 32 "RegionRestarts$Plan" "room" "I" ∈ wsL_law := wr_11 _ (List.mem_of_getElem? (i := 23) rfl)
theorem wm_12_0 : Cond.fieldLink RX3 35 "RegionRestarts$Graph" "tasks" "[LRegionRestarts$Task;" ∈ wsL_law := wr_12 _ (List.mem_of_getElem? (i := 0) rfl)
theorem wm_12_1 : Cond.fieldLink RX3 39 "RegionRestarts$Task" "sort" "I" ∈ wsL_law := wr_12 _ (List.mem_of_getElem? (i := 1) rfl)
theorem wm_12_2 : Cond.methodLink RX3 26 yX2_roomOf ∈ wsL_law := wr_12 _ (List.mem_of_getElem? (i := 2) rfl)
theorem wm_12_3 : Cond.instanceMethod yX2_roomOf ∈ wsL_law := wr_12 _ (List.mem_of_getElem? (i := 3) rfl)
theorem wm_12_4 : Cond.selects RX2 yX2_roomOf yX2_roomOf ∈ wsL_law := wr_12 _ (List.mem_of_getElem? (i := 4) rfl)
theorem wm_12_5 : Cond.code yX2_roomOf cX2_roomOf 4 (some .int) ∈ wsL_law := wr_12 _ (List.mem_of_getElem? (i := 5) rfl)
theorem wm_12_6 : Cond.fieldLink RX2 53 "RegionRestarts$Task" "sort" "I" ∈ wsL_law := wr_12 _ (List.mem_of_getElem? (i := 6) rfl)
theorem wm_12_7 : Cond.fieldLink RX2 71 "RegionRestarts$Task" "outCount" "I" ∈ wsL_law := wr_12 _ (List.mem_of_getElem? (i := 7) rfl)
theorem wm_12_8 : Cond.fieldLink RX2 74 "RegionRestarts$Channel" "from" "I" ∈ wsL_law := wr_12 _ (List.mem_of_getElem? (i := 8) rfl)
theorem wm_12_9 : Cond.fieldLink RX2 77 "RegionRestarts$Channel" "given" "I" ∈ wsL_law := wr_12 _ (List.mem_of_getElem? (i := 9) rfl)
theorem wm_12_10 : Cond.methodLink RX2 80 Lib.Math.min.name ∈ wsL_law := wr_12 _ (List.mem_of_getElem? (i := 10) rfl)
theorem wm_12_11 : Cond.static Lib.Math.min.name ∈ wsL_law := wr_12 _ (List.mem_of_getElem? (i := 11) rfl)
theorem wm_12_12 : Cond.code Lib.Math.min.name Lib.Math.min.code 2 (some .int) ∈ wsL_law := wr_12 _ (List.mem_of_getElem? (i := 12) rfl)
theorem wm_12_13 : Cond.methodLink RX3 44 yX3_fillFromSource ∈ wsL_law := wr_12 _ (List.mem_of_getElem? (i := 13) rfl)
theorem wm_12_14 : Cond.instanceMethod yX3_fillFromSource ∈ wsL_law := wr_12 _ (List.mem_of_getElem? (i := 14) rfl)
theorem wm_12_15 : Cond.selects RX3 yX3_fillFromSource yX3_fillFromSource ∈ wsL_law := wr_12 _ (List.mem_of_getElem? (i := 15) rfl)
theorem wm_12_16 : Cond.code yX3_fillFromSource cX3_fillFromSource 4 none ∈ wsL_law := wr_12 _ (List.mem_of_getElem? (i := 16) rfl)
theorem wm_12_17 : Cond.fieldLink RX3 52 "RegionRestarts$Task" "place" "I" ∈ wsL_law := wr_12 _ (List.mem_of_getElem? (i := 17) rfl)
theorem wm_12_18 : Cond.fieldLink RX3 55 "RegionRestarts$Task" "a" "I" ∈ wsL_law := wr_12 _ (List.mem_of_getElem? (i := 18) rfl)
theorem wm_12_19 : Cond.methodLink RX3 58 yX3_takesMore ∈ wsL_law := wr_12 _ (List.mem_of_getElem? (i := 19) rfl)
theorem wm_12_20 : Cond.instanceMethod yX3_takesMore ∈ wsL_law := wr_12 _ (List.mem_of_getElem? (i := 20) rfl)
theorem wm_12_21 : Cond.selects RX3 yX3_takesMore yX3_takesMore ∈ wsL_law := wr_12 _ (List.mem_of_getElem? (i := 21) rfl)
theorem wm_12_22 : Cond.code yX3_takesMore cX3_takesMore 2 (some .boolean) ∈ wsL_law := wr_12 _ (List.mem_of_getElem? (i := 22) rfl)
theorem wm_12_23 : Cond.fieldLink RX3 94 "RegionRestarts$Task" "width" "I" ∈ wsL_law := wr_12 _ (List.mem_of_getElem? (i := 23) rfl)
theorem wm_13_0 : Cond.methodLink RX3 62 yX3_add ∈ wsL_law := wr_13 _ (List.mem_of_getElem? (i := 0) rfl)
theorem wm_13_1 : Cond.instanceMethod yX3_add ∈ wsL_law := wr_13 _ (List.mem_of_getElem? (i := 1) rfl)
theorem wm_13_2 : Cond.selects RX3 yX3_add yX3_add ∈ wsL_law := wr_13 _ (List.mem_of_getElem? (i := 2) rfl)
theorem wm_13_3 : Cond.code yX3_add cX3_add 5 none ∈ wsL_law := wr_13 _ (List.mem_of_getElem? (i := 3) rfl)
theorem wm_13_4 : Cond.methodLink RX3 97 yX4_throwsAt ∈ wsL_law := wr_13 _ (List.mem_of_getElem? (i := 4) rfl)
theorem wm_13_5 : Cond.instanceMethod yX4_throwsAt ∈ wsL_law := wr_13 _ (List.mem_of_getElem? (i := 5) rfl)
theorem wm_13_6 : Cond.selects RX4 yX4_throwsAt yX4_throwsAt ∈ wsL_law := wr_13 _ (List.mem_of_getElem? (i := 6) rfl)
theorem wm_13_7 : Cond.code yX4_throwsAt cX4_throwsAt 3 (some .boolean) ∈ wsL_law := wr_13 _ (List.mem_of_getElem? (i := 7) rfl)
theorem wm_13_8 : Cond.methodLink RX4 73 yX4_isAside ∈ wsL_law := wr_13 _ (List.mem_of_getElem? (i := 8) rfl)
theorem wm_13_9 : Cond.instanceMethod yX4_isAside ∈ wsL_law := wr_13 _ (List.mem_of_getElem? (i := 9) rfl)
theorem wm_13_10 : Cond.selects RX4 yX4_isAside yX4_isAside ∈ wsL_law := wr_13 _ (List.mem_of_getElem? (i := 10) rfl)
theorem wm_13_11 : Cond.code yX4_isAside cX4_isAside 3 (some .boolean) ∈ wsL_law := wr_13 _ (List.mem_of_getElem? (i := 11) rfl)
theorem wm_13_12 : Cond.methodLink RX3 100 yX4_isAside ∈ wsL_law := wr_13 _ (List.mem_of_getElem? (i := 12) rfl)
theorem wm_13_13 : Cond.methodLink RX3 104 yX4_givesFor ∈ wsL_law := wr_13 _ (List.mem_of_getElem? (i := 13) rfl)
theorem wm_13_14 : Cond.instanceMethod yX4_givesFor ∈ wsL_law := wr_13 _ (List.mem_of_getElem? (i := 14) rfl)
theorem wm_13_15 : Cond.selects RX4 yX4_givesFor yX4_givesFor ∈ wsL_law := wr_13 _ (List.mem_of_getElem? (i := 15) rfl)
theorem wm_13_16 : Cond.code yX4_givesFor cX4_givesFor 2 (some .boolean) ∈ wsL_law := wr_13 _ (List.mem_of_getElem? (i := 16) rfl)
theorem wm_13_17 : Cond.methodLink RX3 48 yX3_fillFromChannels ∈ wsL_law := wr_13 _ (List.mem_of_getElem? (i := 17) rfl)
theorem wm_13_18 : Cond.instanceMethod yX3_fillFromChannels ∈ wsL_law := wr_13 _ (List.mem_of_getElem? (i := 18) rfl)
theorem wm_13_19 : Cond.selects RX3 yX3_fillFromChannels yX3_fillFromChannels ∈ wsL_law := wr_13 _ (List.mem_of_getElem? (i := 19) rfl)
theorem wm_13_20 : Cond.code yX3_fillFromChannels cX3_fillFromChannels 8 none ∈ wsL_law := wr_13 _ (List.mem_of_getElem? (i := 20) rfl)
theorem wm_13_21 : Cond.fieldLink RX3 70 "RegionRestarts$Graph" "channelCount" "I" ∈ wsL_law := wr_13 _ (List.mem_of_getElem? (i := 21) rfl)
theorem wm_13_22 : Cond.fieldLink RX3 73 "RegionRestarts$Graph" "channels" "[LRegionRestarts$Channel;" ∈ wsL_law := wr_13 _ (List.mem_of_getElem? (i := 22) rfl)
theorem wm_13_23 : Cond.fieldLink RX3 76 "RegionRestarts$Channel" "to" "I" ∈ wsL_law := wr_13 _ (List.mem_of_getElem? (i := 23) rfl)
theorem wm_14_0 : Cond.fieldLink RX3 81 "RegionRestarts$Channel" "taken" "I" ∈ wsL_law := wr_14 _ (List.mem_of_getElem? (i := 0) rfl)
theorem wm_14_1 : Cond.fieldLink RX3 88 "RegionRestarts$Channel" "rows" "[I" ∈ wsL_law := wr_14 _ (List.mem_of_getElem? (i := 1) rfl)
theorem wm_14_2 : Cond.methodLink RX3 66 yX2_doneTasks ∈ wsL_law := wr_14 _ (List.mem_of_getElem? (i := 2) rfl)
theorem wm_14_3 : Cond.instanceMethod yX2_doneTasks ∈ wsL_law := wr_14 _ (List.mem_of_getElem? (i := 3) rfl)
theorem wm_14_4 : Cond.selects RX2 yX2_doneTasks yX2_doneTasks ∈ wsL_law := wr_14 _ (List.mem_of_getElem? (i := 4) rfl)
theorem wm_14_5 : Cond.code yX2_doneTasks cX2_doneTasks 3 (some .int) ∈ wsL_law := wr_14 _ (List.mem_of_getElem? (i := 5) rfl)
theorem wm_14_6 : Cond.methodLink RX2 49 yX2_isDone ∈ wsL_law := wr_14 _ (List.mem_of_getElem? (i := 6) rfl)
theorem wm_14_7 : Cond.instanceMethod yX2_isDone ∈ wsL_law := wr_14 _ (List.mem_of_getElem? (i := 7) rfl)
theorem wm_14_8 : Cond.selects RX2 yX2_isDone yX2_isDone ∈ wsL_law := wr_14 _ (List.mem_of_getElem? (i := 8) rfl)
theorem wm_14_9 : Cond.code yX2_isDone cX2_isDone 5 (some .boolean) ∈ wsL_law := wr_14 _ (List.mem_of_getElem? (i := 9) rfl)
theorem wm_14_10 : Cond.fieldLink RX2 56 "RegionRestarts$Task" "place" "I" ∈ wsL_law := wr_14 _ (List.mem_of_getElem? (i := 10) rfl)
theorem wm_14_11 : Cond.fieldLink RX2 59 "RegionRestarts$Task" "a" "I" ∈ wsL_law := wr_14 _ (List.mem_of_getElem? (i := 11) rfl)
theorem wm_14_12 : Cond.fieldLink RX2 62 "RegionRestarts$Channel" "to" "I" ∈ wsL_law := wr_14 _ (List.mem_of_getElem? (i := 12) rfl)
theorem wm_14_13 : Cond.fieldLink RX2 65 "RegionRestarts$Channel" "taken" "I" ∈ wsL_law := wr_14 _ (List.mem_of_getElem? (i := 13) rfl)
theorem wm_14_14 : Cond.methodLink RX2 68 yX1_isOverAt ∈ wsL_law := wr_14 _ (List.mem_of_getElem? (i := 14) rfl)
theorem wm_14_15 : Cond.instanceMethod yX1_isOverAt ∈ wsL_law := wr_14 _ (List.mem_of_getElem? (i := 15) rfl)
theorem wm_14_16 : Cond.selects RX1 yX1_isOverAt yX1_isOverAt ∈ wsL_law := wr_14 _ (List.mem_of_getElem? (i := 16) rfl)
theorem wm_14_17 : Cond.code yX1_isOverAt cX1_isOverAt 3 (some .boolean) ∈ wsL_law := wr_14 _ (List.mem_of_getElem? (i := 17) rfl)
theorem wm_14_18 : Cond.static yX5_isIn ∈ wsL_law := wr_14 _ (List.mem_of_getElem? (i := 18) rfl)
theorem wm_14_19 : Cond.code yX5_isIn cX5_isIn 2 (some .boolean) ∈ wsL_law := wr_14 _ (List.mem_of_getElem? (i := 19) rfl)
theorem wm_14_20 : Cond.methodLink RX3 84 yX1_offersAt ∈ wsL_law := wr_14 _ (List.mem_of_getElem? (i := 20) rfl)
theorem wm_14_21 : Cond.instanceMethod yX1_offersAt ∈ wsL_law := wr_14 _ (List.mem_of_getElem? (i := 21) rfl)
theorem wm_14_22 : Cond.selects RX1 yX1_offersAt yX1_offersAt ∈ wsL_law := wr_14 _ (List.mem_of_getElem? (i := 22) rfl)
theorem wm_14_23 : Cond.code yX1_offersAt cX1_offersAt 3 (some .boolean) ∈ wsL_law := wr_14 _ (List.mem_of_getElem? (i := 23) rfl)
theorem wm_15_0 : Cond.methodLink RX1 57 yX1_isOverAt ∈ wsL_law := wr_15 _ (List.mem_of_getElem? (i := 0) rfl)
theorem wm_15_1 : Cond.methodLink RX3 91 yX1_isOverAt ∈ wsL_law := wr_15 _ (List.mem_of_getElem? (i := 1) rfl)
theorem wm_15_2 : Cond.methodLink RX5 102 yX4_narrowAfterThrow ∈ wsL_law := wr_15 _ (List.mem_of_getElem? (i := 2) rfl)
theorem wm_15_3 : Cond.instanceMethod yX4_narrowAfterThrow ∈ wsL_law := wr_15 _ (List.mem_of_getElem? (i := 3) rfl)
theorem wm_15_4 : Cond.selects RX4 yX4_narrowAfterThrow yX4_narrowAfterThrow ∈ wsL_law := wr_15 _ (List.mem_of_getElem? (i := 4) rfl)
theorem wm_15_5 : Cond.code yX4_narrowAfterThrow cX4_narrowAfterThrow 2 none ∈ wsL_law := wr_15 _ (List.mem_of_getElem? (i := 5) rfl)
theorem wm_15_6 : Cond.methodLink RX5 106 yX5_failAlone ∈ wsL_law := wr_15 _ (List.mem_of_getElem? (i := 6) rfl)
theorem wm_15_7 : Cond.instanceMethod yX5_failAlone ∈ wsL_law := wr_15 _ (List.mem_of_getElem? (i := 7) rfl)
theorem wm_15_8 : Cond.selects RX5 yX5_failAlone yX5_failAlone ∈ wsL_law := wr_15 _ (List.mem_of_getElem? (i := 8) rfl)
theorem wm_15_9 : Cond.code yX5_failAlone cX5_failAlone 4 (some .int) ∈ wsL_law := wr_15 _ (List.mem_of_getElem? (i := 9) rfl)
theorem wm_15_10 : Cond.methodLink RX5 127 yX5_blameAll ∈ wsL_law := wr_15 _ (List.mem_of_getElem? (i := 10) rfl)
theorem wm_15_11 : Cond.instanceMethod yX5_blameAll ∈ wsL_law := wr_15 _ (List.mem_of_getElem? (i := 11) rfl)
theorem wm_15_12 : Cond.selects RX5 yX5_blameAll yX5_blameAll ∈ wsL_law := wr_15 _ (List.mem_of_getElem? (i := 12) rfl)
theorem wm_15_13 : Cond.code yX5_blameAll cX5_blameAll 5 (some .int) ∈ wsL_law := wr_15 _ (List.mem_of_getElem? (i := 13) rfl)
theorem wm_15_14 : Cond.fieldLink RX5 196 "RegionRestarts$Task" "fails" "I" ∈ wsL_law := wr_15 _ (List.mem_of_getElem? (i := 14) rfl)
theorem wm_15_15 : Cond.methodLink RX5 295 Lib.Math.max.name ∈ wsL_law := wr_15 _ (List.mem_of_getElem? (i := 15) rfl)
theorem wm_15_16 : Cond.methodLink RX5 202 yX5_isIn ∈ wsL_law := wr_15 _ (List.mem_of_getElem? (i := 16) rfl)
theorem wm_15_17 : Cond.methodLink RX5 291 yX0_putDown ∈ wsL_law := wr_15 _ (List.mem_of_getElem? (i := 17) rfl)
theorem wm_15_18 : Cond.instanceMethod yX0_putDown ∈ wsL_law := wr_15 _ (List.mem_of_getElem? (i := 18) rfl)
theorem wm_15_19 : Cond.selects RX0 yX0_putDown yX0_putDown ∈ wsL_law := wr_15 _ (List.mem_of_getElem? (i := 19) rfl)
theorem wm_15_20 : Cond.code yX0_putDown cX0_putDown 4 none ∈ wsL_law := wr_15 _ (List.mem_of_getElem? (i := 20) rfl)
theorem wm_15_21 : Cond.fieldLink RX0 21 "RegionRestarts$Causes" "count" "I" ∈ wsL_law := wr_15 _ (List.mem_of_getElem? (i := 21) rfl)
theorem wm_15_22 : Cond.methodLink RX5 136 yX5_beginAgain ∈ wsL_law := wr_15 _ (List.mem_of_getElem? (i := 22) rfl)
theorem wm_15_23 : Cond.instanceMethod yX5_beginAgain ∈ wsL_law := wr_15 _ (List.mem_of_getElem? (i := 23) rfl)
theorem wm_16_0 : Cond.selects RX5 yX5_beginAgain yX5_beginAgain ∈ wsL_law := wr_16 _ (List.mem_of_getElem? (i := 0) rfl)
theorem wm_16_1 : Cond.code yX5_beginAgain cX5_beginAgain 5 (some .int) ∈ wsL_law := wr_16 _ (List.mem_of_getElem? (i := 1) rfl)
theorem wm_16_2 : Cond.methodLink RX5 181 yX2_regionOf ∈ wsL_law := wr_16 _ (List.mem_of_getElem? (i := 2) rfl)
theorem wm_16_3 : Cond.instanceMethod yX2_regionOf ∈ wsL_law := wr_16 _ (List.mem_of_getElem? (i := 3) rfl)
theorem wm_16_4 : Cond.selects RX2 yX2_regionOf yX2_regionOf ∈ wsL_law := wr_16 _ (List.mem_of_getElem? (i := 4) rfl)
theorem wm_16_5 : Cond.code yX2_regionOf cX2_regionOf 5 (some .int) ∈ wsL_law := wr_16 _ (List.mem_of_getElem? (i := 5) rfl)
theorem wm_16_6 : Cond.methodLink RX2 104 yX2_widened ∈ wsL_law := wr_16 _ (List.mem_of_getElem? (i := 6) rfl)
theorem wm_16_7 : Cond.instanceMethod yX2_widened ∈ wsL_law := wr_16 _ (List.mem_of_getElem? (i := 7) rfl)
theorem wm_16_8 : Cond.selects RX2 yX2_widened yX2_widened ∈ wsL_law := wr_16 _ (List.mem_of_getElem? (i := 8) rfl)
theorem wm_16_9 : Cond.code yX2_widened cX2_widened 7 (some .int) ∈ wsL_law := wr_16 _ (List.mem_of_getElem? (i := 9) rfl)
theorem wm_16_10 : Cond.fieldLink RX2 110 "RegionRestarts$Channel" "seen" "I" ∈ wsL_law := wr_16 _ (List.mem_of_getElem? (i := 10) rfl)
theorem wm_16_11 : Cond.fieldLink RX2 90 "RegionRestarts$Channel" "isKept" "Z" ∈ wsL_law := wr_16 _ (List.mem_of_getElem? (i := 11) rfl)
theorem wm_16_12 : Cond.fieldLink RX2 117 "RegionRestarts$Channel" "lost" "I" ∈ wsL_law := wr_16 _ (List.mem_of_getElem? (i := 12) rfl)
theorem wm_16_13 : Cond.methodLink RX2 107 yX2_unsteadyIn ∈ wsL_law := wr_16 _ (List.mem_of_getElem? (i := 13) rfl)
theorem wm_16_14 : Cond.instanceMethod yX2_unsteadyIn ∈ wsL_law := wr_16 _ (List.mem_of_getElem? (i := 14) rfl)
theorem wm_16_15 : Cond.selects RX2 yX2_unsteadyIn yX2_unsteadyIn ∈ wsL_law := wr_16 _ (List.mem_of_getElem? (i := 15) rfl)
theorem wm_16_16 : Cond.code yX2_unsteadyIn cX2_unsteadyIn 4 (some .int) ∈ wsL_law := wr_16 _ (List.mem_of_getElem? (i := 16) rfl)
theorem wm_16_17 : Cond.methodLink RX2 113 yX1_settled ∈ wsL_law := wr_16 _ (List.mem_of_getElem? (i := 17) rfl)
theorem wm_16_18 : Cond.instanceMethod yX1_settled ∈ wsL_law := wr_16 _ (List.mem_of_getElem? (i := 18) rfl)
theorem wm_16_19 : Cond.selects RX1 yX1_settled yX1_settled ∈ wsL_law := wr_16 _ (List.mem_of_getElem? (i := 19) rfl)
theorem wm_16_20 : Cond.code yX1_settled cX1_settled 1 (some .int) ∈ wsL_law := wr_16 _ (List.mem_of_getElem? (i := 20) rfl)
theorem wm_16_21 : Cond.methodLink RX1 60 Lib.Math.max.name ∈ wsL_law := wr_16 _ (List.mem_of_getElem? (i := 21) rfl)
theorem wm_16_22 : Cond.methodLink RX5 298 yX5_waitAfter ∈ wsL_law := wr_16 _ (List.mem_of_getElem? (i := 22) rfl)
theorem wm_16_23 : Cond.static yX5_waitAfter ∈ wsL_law := wr_16 _ (List.mem_of_getElem? (i := 23) rfl)
theorem wm_17_0 : Cond.code yX5_waitAfter cX5_waitAfter 1 (some .int) ∈ wsL_law := wr_17 _ (List.mem_of_getElem? (i := 0) rfl)
theorem wm_17_1 : Cond.methodLink RX5 167 Lib.Math.min.name ∈ wsL_law := wr_17 _ (List.mem_of_getElem? (i := 1) rfl)
theorem wm_17_2 : Cond.methodLink RX5 301 yX2_rewind ∈ wsL_law := wr_17 _ (List.mem_of_getElem? (i := 2) rfl)
theorem wm_17_3 : Cond.instanceMethod yX2_rewind ∈ wsL_law := wr_17 _ (List.mem_of_getElem? (i := 3) rfl)
theorem wm_17_4 : Cond.selects RX2 yX2_rewind yX2_rewind ∈ wsL_law := wr_17 _ (List.mem_of_getElem? (i := 4) rfl)
theorem wm_17_5 : Cond.code yX2_rewind cX2_rewind 6 none ∈ wsL_law := wr_17 _ (List.mem_of_getElem? (i := 5) rfl)
theorem wm_17_6 : Cond.methodLink RX2 120 yX4_rewind ∈ wsL_law := wr_17 _ (List.mem_of_getElem? (i := 6) rfl)
theorem wm_17_7 : Cond.instanceMethod yX4_rewind ∈ wsL_law := wr_17 _ (List.mem_of_getElem? (i := 7) rfl)
theorem wm_17_8 : Cond.selects RX4 yX4_rewind yX4_rewind ∈ wsL_law := wr_17 _ (List.mem_of_getElem? (i := 8) rfl)
theorem wm_17_9 : Cond.code yX4_rewind cX4_rewind 2 none ∈ wsL_law := wr_17 _ (List.mem_of_getElem? (i := 9) rfl)
theorem wm_17_10 : Cond.methodLink RX2 123 yX1_rewindTaker ∈ wsL_law := wr_17 _ (List.mem_of_getElem? (i := 10) rfl)
theorem wm_17_11 : Cond.instanceMethod yX1_rewindTaker ∈ wsL_law := wr_17 _ (List.mem_of_getElem? (i := 11) rfl)
theorem wm_17_12 : Cond.selects RX1 yX1_rewindTaker yX1_rewindTaker ∈ wsL_law := wr_17 _ (List.mem_of_getElem? (i := 12) rfl)
theorem wm_17_13 : Cond.code yX1_rewindTaker cX1_rewindTaker 1 none ∈ wsL_law := wr_17 _ (List.mem_of_getElem? (i := 13) rfl)
theorem wm_17_14 : Cond.methodLink RX2 126 yX1_rewindGiver ∈ wsL_law := wr_17 _ (List.mem_of_getElem? (i := 14) rfl)
theorem wm_17_15 : Cond.instanceMethod yX1_rewindGiver ∈ wsL_law := wr_17 _ (List.mem_of_getElem? (i := 15) rfl)
theorem wm_17_16 : Cond.selects RX1 yX1_rewindGiver yX1_rewindGiver ∈ wsL_law := wr_17 _ (List.mem_of_getElem? (i := 16) rfl)
theorem wm_17_17 : Cond.code yX1_rewindGiver cX1_rewindGiver 2 none ∈ wsL_law := wr_17 _ (List.mem_of_getElem? (i := 17) rfl)
theorem wm_17_18 : Cond.methodLink RX1 70 Lib.Math.min.name ∈ wsL_law := wr_17 _ (List.mem_of_getElem? (i := 18) rfl)
theorem wm_17_19 : Cond.methodLink RX1 66 yX1_settled ∈ wsL_law := wr_17 _ (List.mem_of_getElem? (i := 19) rfl)
theorem wm_17_20 : Cond.methodLink RX5 246 yJ6_bitCount_0f7a4 ∈ wsL_law := wr_17 _ (List.mem_of_getElem? (i := 20) rfl)
theorem wm_17_21 : Cond.static yJ6_bitCount_0f7a4 ∈ wsL_law := wr_17 _ (List.mem_of_getElem? (i := 21) rfl)
theorem wm_17_22 : Cond.initialized RJ6 ∈ wsL_law := wr_17 _ (List.mem_of_getElem? (i := 22) rfl)
theorem wm_17_23 : Cond.code yJ6_bitCount_0f7a4 cJ6_bitCount_0f7a4 1 (some .int) ∈ wsL_law := wr_17 _ (List.mem_of_getElem? (i := 23) rfl)
theorem wm_18_0 : Cond.constant RJ6 265 (1431655765) ∈ wsL_law := wr_18 _ (List.mem_of_getElem? (i := 0) rfl)
theorem wm_18_1 : Cond.constant RJ6 266 (858993459) ∈ wsL_law := wr_18 _ (List.mem_of_getElem? (i := 1) rfl)
theorem wm_18_2 : Cond.constant RJ6 267 (252645135) ∈ wsL_law := wr_18 _ (List.mem_of_getElem? (i := 2) rfl)
theorem wm_18_3 : Cond.methodLink RX5 113 yX5_carryOut ∈ wsL_law := wr_18 _ (List.mem_of_getElem? (i := 3) rfl)
theorem wm_18_4 : Cond.instanceMethod yX5_carryOut ∈ wsL_law := wr_18 _ (List.mem_of_getElem? (i := 4) rfl)
theorem wm_18_5 : Cond.selects RX5 yX5_carryOut yX5_carryOut ∈ wsL_law := wr_18 _ (List.mem_of_getElem? (i := 5) rfl)
theorem wm_18_6 : Cond.code yX5_carryOut cX5_carryOut 6 none ∈ wsL_law := wr_18 _ (List.mem_of_getElem? (i := 6) rfl)
theorem wm_18_7 : Cond.fieldLink RX5 258 "RegionRestarts$Plan" "channels" "[I" ∈ wsL_law := wr_18 _ (List.mem_of_getElem? (i := 7) rfl)
theorem wm_18_8 : Cond.fieldLink RX5 142 "RegionRestarts$Graph" "channels" "[LRegionRestarts$Channel;" ∈ wsL_law := wr_18 _ (List.mem_of_getElem? (i := 8) rfl)
theorem wm_18_9 : Cond.fieldLink RX5 187 "RegionRestarts$Task" "place" "I" ∈ wsL_law := wr_18 _ (List.mem_of_getElem? (i := 9) rfl)
theorem wm_18_10 : Cond.fieldLink RX5 266 "RegionRestarts$Plan" "values" "[I" ∈ wsL_law := wr_18 _ (List.mem_of_getElem? (i := 10) rfl)
theorem wm_18_11 : Cond.methodLink RX5 139 yX2_hasChannel ∈ wsL_law := wr_18 _ (List.mem_of_getElem? (i := 11) rfl)
theorem wm_18_12 : Cond.instanceMethod yX2_hasChannel ∈ wsL_law := wr_18 _ (List.mem_of_getElem? (i := 12) rfl)
theorem wm_18_13 : Cond.selects RX2 yX2_hasChannel yX2_hasChannel ∈ wsL_law := wr_18 _ (List.mem_of_getElem? (i := 13) rfl)
theorem wm_18_14 : Cond.code yX2_hasChannel cX2_hasChannel 2 (some .boolean) ∈ wsL_law := wr_18 _ (List.mem_of_getElem? (i := 14) rfl)
theorem wm_18_15 : Cond.methodLink RX5 260 yX1_takeOne ∈ wsL_law := wr_18 _ (List.mem_of_getElem? (i := 15) rfl)
theorem wm_18_16 : Cond.instanceMethod yX1_takeOne ∈ wsL_law := wr_18 _ (List.mem_of_getElem? (i := 16) rfl)
theorem wm_18_17 : Cond.selects RX1 yX1_takeOne yX1_takeOne ∈ wsL_law := wr_18 _ (List.mem_of_getElem? (i := 17) rfl)
theorem wm_18_18 : Cond.code yX1_takeOne cX1_takeOne 1 none ∈ wsL_law := wr_18 _ (List.mem_of_getElem? (i := 18) rfl)
theorem wm_18_19 : Cond.methodLink RX5 263 yX4_isAside ∈ wsL_law := wr_18 _ (List.mem_of_getElem? (i := 19) rfl)
theorem wm_18_20 : Cond.methodLink RX5 269 yX5_work ∈ wsL_law := wr_18 _ (List.mem_of_getElem? (i := 20) rfl)
theorem wm_18_21 : Cond.instanceMethod yX5_work ∈ wsL_law := wr_18 _ (List.mem_of_getElem? (i := 21) rfl)
theorem wm_18_22 : Cond.selects RX5 yX5_work yX5_work ∈ wsL_law := wr_18 _ (List.mem_of_getElem? (i := 22) rfl)
theorem wm_18_23 : Cond.code yX5_work cX5_work 4 none ∈ wsL_law := wr_18 _ (List.mem_of_getElem? (i := 23) rfl)
theorem wm_19_0 : Cond.fieldLink RX5 190 "RegionRestarts$Task" "sum" "I" ∈ wsL_law := wr_19 _ (List.mem_of_getElem? (i := 0) rfl)
theorem wm_19_1 : Cond.constantLong RX5 279 (16807) ∈ wsL_law := wr_19 _ (List.mem_of_getElem? (i := 1) rfl)
theorem wm_19_2 : Cond.constantLong RX5 281 (2147483647) ∈ wsL_law := wr_19 _ (List.mem_of_getElem? (i := 2) rfl)
theorem wm_19_3 : Cond.constantLong RX5 283 (10) ∈ wsL_law := wr_19 _ (List.mem_of_getElem? (i := 3) rfl)
theorem wm_19_4 : Cond.fieldLink RX5 285 "RegionRestarts$Task" "a" "I" ∈ wsL_law := wr_19 _ (List.mem_of_getElem? (i := 4) rfl)
theorem wm_19_5 : Cond.methodLink RX5 273 yX4_putOut ∈ wsL_law := wr_19 _ (List.mem_of_getElem? (i := 5) rfl)
theorem wm_19_6 : Cond.instanceMethod yX4_putOut ∈ wsL_law := wr_19 _ (List.mem_of_getElem? (i := 6) rfl)
theorem wm_19_7 : Cond.selects RX4 yX4_putOut yX4_putOut ∈ wsL_law := wr_19 _ (List.mem_of_getElem? (i := 7) rfl)
theorem wm_19_8 : Cond.code yX4_putOut cX4_putOut 2 none ∈ wsL_law := wr_19 _ (List.mem_of_getElem? (i := 8) rfl)
theorem wm_19_9 : Cond.methodLink RX5 276 yX2_give ∈ wsL_law := wr_19 _ (List.mem_of_getElem? (i := 9) rfl)
theorem wm_19_10 : Cond.instanceMethod yX2_give ∈ wsL_law := wr_19 _ (List.mem_of_getElem? (i := 10) rfl)
theorem wm_19_11 : Cond.selects RX2 yX2_give yX2_give ∈ wsL_law := wr_19 _ (List.mem_of_getElem? (i := 11) rfl)
theorem wm_19_12 : Cond.code yX2_give cX2_give 4 none ∈ wsL_law := wr_19 _ (List.mem_of_getElem? (i := 12) rfl)
theorem wm_19_13 : Cond.methodLink RX2 86 yX1_put ∈ wsL_law := wr_19 _ (List.mem_of_getElem? (i := 13) rfl)
theorem wm_19_14 : Cond.instanceMethod yX1_put ∈ wsL_law := wr_19 _ (List.mem_of_getElem? (i := 14) rfl)
theorem wm_19_15 : Cond.selects RX1 yX1_put yX1_put ∈ wsL_law := wr_19 _ (List.mem_of_getElem? (i := 15) rfl)
theorem wm_19_16 : Cond.code yX1_put cX1_put 2 none ∈ wsL_law := wr_19 _ (List.mem_of_getElem? (i := 16) rfl)
theorem wm_19_17 : Cond.methodLink RX5 288 yX4_givesFor ∈ wsL_law := wr_19 _ (List.mem_of_getElem? (i := 17) rfl)
theorem wm_19_22 : Cond.methodLink RX6 221 yX6_takeRows ∈ wsL_law := wr_19 _ (List.mem_of_getElem? (i := 22) rfl)
theorem wm_19_23 : Cond.instanceMethod yX6_takeRows ∈ wsL_law := wr_19 _ (List.mem_of_getElem? (i := 23) rfl)
theorem wm_20_0 : Cond.selects RX6 yX6_takeRows yX6_takeRows ∈ wsL_law := wr_20 _ (List.mem_of_getElem? (i := 0) rfl)
theorem wm_20_1 : Cond.code yX6_takeRows cX6_takeRows 10 (some .int) ∈ wsL_law := wr_20 _ (List.mem_of_getElem? (i := 1) rfl)
theorem wm_20_2 : Cond.methodLink RX6 195 yX6_holdAll ∈ wsL_law := wr_20 _ (List.mem_of_getElem? (i := 2) rfl)
theorem wm_20_3 : Cond.instanceMethod yX6_holdAll ∈ wsL_law := wr_20 _ (List.mem_of_getElem? (i := 3) rfl)
theorem wm_20_4 : Cond.selects RX6 yX6_holdAll yX6_holdAll ∈ wsL_law := wr_20 _ (List.mem_of_getElem? (i := 4) rfl)
theorem wm_20_5 : Cond.code yX6_holdAll cX6_holdAll 2 none ∈ wsL_law := wr_20 _ (List.mem_of_getElem? (i := 5) rfl)
theorem wm_20_6 : Cond.methodLink RX6 198 yX6_findDone ∈ wsL_law := wr_20 _ (List.mem_of_getElem? (i := 6) rfl)
theorem wm_20_7 : Cond.instanceMethod yX6_findDone ∈ wsL_law := wr_20 _ (List.mem_of_getElem? (i := 7) rfl)
theorem wm_20_8 : Cond.selects RX6 yX6_findDone yX6_findDone ∈ wsL_law := wr_20 _ (List.mem_of_getElem? (i := 8) rfl)
theorem wm_20_9 : Cond.code yX6_findDone cX6_findDone 4 none ∈ wsL_law := wr_20 _ (List.mem_of_getElem? (i := 9) rfl)
theorem wm_20_10 : Cond.methodLink RX6 201 yX6_nextOf ∈ wsL_law := wr_20 _ (List.mem_of_getElem? (i := 10) rfl)
theorem wm_20_11 : Cond.instanceMethod yX6_nextOf ∈ wsL_law := wr_20 _ (List.mem_of_getElem? (i := 11) rfl)
theorem wm_20_12 : Cond.selects RX6 yX6_nextOf yX6_nextOf ∈ wsL_law := wr_20 _ (List.mem_of_getElem? (i := 12) rfl)
theorem wm_20_13 : Cond.code yX6_nextOf cX6_nextOf 4 (some .int) ∈ wsL_law := wr_20 _ (List.mem_of_getElem? (i := 13) rfl)
theorem wm_20_14 : Cond.methodLink RX6 180 yX6_isOver ∈ wsL_law := wr_20 _ (List.mem_of_getElem? (i := 14) rfl)
theorem wm_20_15 : Cond.instanceMethod yX6_isOver ∈ wsL_law := wr_20 _ (List.mem_of_getElem? (i := 15) rfl)
theorem wm_20_16 : Cond.selects RX6 yX6_isOver yX6_isOver ∈ wsL_law := wr_20 _ (List.mem_of_getElem? (i := 16) rfl)
theorem wm_20_17 : Cond.code yX6_isOver cX6_isOver 2 (some .boolean) ∈ wsL_law := wr_20 _ (List.mem_of_getElem? (i := 17) rfl)
theorem wm_20_18 : Cond.methodLink RX6 183 yX6_ready ∈ wsL_law := wr_20 _ (List.mem_of_getElem? (i := 18) rfl)
theorem wm_20_19 : Cond.instanceMethod yX6_ready ∈ wsL_law := wr_20 _ (List.mem_of_getElem? (i := 19) rfl)
theorem wm_20_20 : Cond.selects RX6 yX6_ready yX6_ready ∈ wsL_law := wr_20 _ (List.mem_of_getElem? (i := 20) rfl)
theorem wm_20_21 : Cond.code yX6_ready cX6_ready 2 (some .int) ∈ wsL_law := wr_20 _ (List.mem_of_getElem? (i := 21) rfl)
theorem wm_20_22 : Cond.methodLink RX6 204 yX6_canGive ∈ wsL_law := wr_20 _ (List.mem_of_getElem? (i := 22) rfl)
theorem wm_20_23 : Cond.instanceMethod yX6_canGive ∈ wsL_law := wr_20 _ (List.mem_of_getElem? (i := 23) rfl)
theorem wm_21_0 : Cond.selects RX6 yX6_canGive yX6_canGive ∈ wsL_law := wr_21 _ (List.mem_of_getElem? (i := 0) rfl)
theorem wm_21_1 : Cond.code yX6_canGive cX6_canGive 4 (some .boolean) ∈ wsL_law := wr_21 _ (List.mem_of_getElem? (i := 1) rfl)
theorem wm_21_2 : Cond.methodLink RX6 207 yX6_valueOf ∈ wsL_law := wr_21 _ (List.mem_of_getElem? (i := 2) rfl)
theorem wm_21_3 : Cond.instanceMethod yX6_valueOf ∈ wsL_law := wr_21 _ (List.mem_of_getElem? (i := 3) rfl)
theorem wm_21_4 : Cond.selects RX6 yX6_valueOf yX6_valueOf ∈ wsL_law := wr_21 _ (List.mem_of_getElem? (i := 4) rfl)
theorem wm_21_5 : Cond.code yX6_valueOf cX6_valueOf 3 (some .int) ∈ wsL_law := wr_21 _ (List.mem_of_getElem? (i := 5) rfl)
theorem wm_21_6 : Cond.methodLink RX6 211 yX6_isAside ∈ wsL_law := wr_21 _ (List.mem_of_getElem? (i := 6) rfl)
theorem wm_21_7 : Cond.instanceMethod yX6_isAside ∈ wsL_law := wr_21 _ (List.mem_of_getElem? (i := 7) rfl)
theorem wm_21_8 : Cond.selects RX6 yX6_isAside yX6_isAside ∈ wsL_law := wr_21 _ (List.mem_of_getElem? (i := 8) rfl)
theorem wm_21_9 : Cond.code yX6_isAside cX6_isAside 5 (some .boolean) ∈ wsL_law := wr_21 _ (List.mem_of_getElem? (i := 9) rfl)
theorem wm_21_10 : Cond.methodLink RX6 215 yX6_work ∈ wsL_law := wr_21 _ (List.mem_of_getElem? (i := 10) rfl)
theorem wm_21_11 : Cond.instanceMethod yX6_work ∈ wsL_law := wr_21 _ (List.mem_of_getElem? (i := 11) rfl)
theorem wm_21_12 : Cond.selects RX6 yX6_work yX6_work ∈ wsL_law := wr_21 _ (List.mem_of_getElem? (i := 12) rfl)
theorem wm_21_13 : Cond.code yX6_work cX6_work 3 none ∈ wsL_law := wr_21 _ (List.mem_of_getElem? (i := 13) rfl)
theorem wm_21_14 : Cond.constantLong RX6 191 (16807) ∈ wsL_law := wr_21 _ (List.mem_of_getElem? (i := 14) rfl)
theorem wm_21_15 : Cond.constantLong RX6 193 (2147483647) ∈ wsL_law := wr_21 _ (List.mem_of_getElem? (i := 15) rfl)
theorem wm_21_16 : Cond.methodLink RX6 187 yX6_give ∈ wsL_law := wr_21 _ (List.mem_of_getElem? (i := 16) rfl)
theorem wm_21_17 : Cond.instanceMethod yX6_give ∈ wsL_law := wr_21 _ (List.mem_of_getElem? (i := 17) rfl)
theorem wm_21_18 : Cond.selects RX6 yX6_give yX6_give ∈ wsL_law := wr_21 _ (List.mem_of_getElem? (i := 18) rfl)
theorem wm_21_19 : Cond.code yX6_give cX6_give 4 none ∈ wsL_law := wr_21 _ (List.mem_of_getElem? (i := 19) rfl)
theorem wm_21_20 : Cond.methodLink RX6 218 yX6_undoAll ∈ wsL_law := wr_21 _ (List.mem_of_getElem? (i := 20) rfl)
theorem wm_21_21 : Cond.instanceMethod yX6_undoAll ∈ wsL_law := wr_21 _ (List.mem_of_getElem? (i := 21) rfl)
theorem wm_21_22 : Cond.selects RX6 yX6_undoAll yX6_undoAll ∈ wsL_law := wr_21 _ (List.mem_of_getElem? (i := 22) rfl)
theorem wm_21_23 : Cond.code yX6_undoAll cX6_undoAll 2 none ∈ wsL_law := wr_21 _ (List.mem_of_getElem? (i := 23) rfl)
theorem wm_22_0 : Cond.methodLink RX6 224 yX6_failOne ∈ wsL_law := wr_22 _ (List.mem_of_getElem? (i := 0) rfl)
theorem wm_22_1 : Cond.instanceMethod yX6_failOne ∈ wsL_law := wr_22 _ (List.mem_of_getElem? (i := 1) rfl)
theorem wm_22_2 : Cond.selects RX6 yX6_failOne yX6_failOne ∈ wsL_law := wr_22 _ (List.mem_of_getElem? (i := 2) rfl)
theorem wm_22_3 : Cond.code yX6_failOne cX6_failOne 3 (some .int) ∈ wsL_law := wr_22 _ (List.mem_of_getElem? (i := 3) rfl)
theorem wm_22_4 : Cond.methodLink RX6 230 yX6_blame ∈ wsL_law := wr_22 _ (List.mem_of_getElem? (i := 4) rfl)
theorem wm_22_5 : Cond.instanceMethod yX6_blame ∈ wsL_law := wr_22 _ (List.mem_of_getElem? (i := 5) rfl)
theorem wm_22_6 : Cond.selects RX6 yX6_blame yX6_blame ∈ wsL_law := wr_22 _ (List.mem_of_getElem? (i := 6) rfl)
theorem wm_22_7 : Cond.code yX6_blame cX6_blame 3 none ∈ wsL_law := wr_22 _ (List.mem_of_getElem? (i := 7) rfl)
theorem wm_22_8 : Cond.methodLink RX6 233 yX6_noRegion ∈ wsL_law := wr_22 _ (List.mem_of_getElem? (i := 8) rfl)
theorem wm_22_9 : Cond.instanceMethod yX6_noRegion ∈ wsL_law := wr_22 _ (List.mem_of_getElem? (i := 9) rfl)
theorem wm_22_10 : Cond.selects RX6 yX6_noRegion yX6_noRegion ∈ wsL_law := wr_22 _ (List.mem_of_getElem? (i := 10) rfl)
theorem wm_22_11 : Cond.code yX6_noRegion cX6_noRegion 2 none ∈ wsL_law := wr_22 _ (List.mem_of_getElem? (i := 11) rfl)
theorem wm_22_12 : Cond.methodLink RX6 236 yX6_grow ∈ wsL_law := wr_22 _ (List.mem_of_getElem? (i := 12) rfl)
theorem wm_22_13 : Cond.instanceMethod yX6_grow ∈ wsL_law := wr_22 _ (List.mem_of_getElem? (i := 13) rfl)
theorem wm_22_14 : Cond.selects RX6 yX6_grow yX6_grow ∈ wsL_law := wr_22 _ (List.mem_of_getElem? (i := 14) rfl)
theorem wm_22_15 : Cond.code yX6_grow cX6_grow 5 none ∈ wsL_law := wr_22 _ (List.mem_of_getElem? (i := 15) rfl)
theorem wm_22_16 : Cond.methodLink RX6 227 yX6_isUnsteady ∈ wsL_law := wr_22 _ (List.mem_of_getElem? (i := 16) rfl)
theorem wm_22_17 : Cond.instanceMethod yX6_isUnsteady ∈ wsL_law := wr_22 _ (List.mem_of_getElem? (i := 17) rfl)
theorem wm_22_18 : Cond.selects RX6 yX6_isUnsteady yX6_isUnsteady ∈ wsL_law := wr_22 _ (List.mem_of_getElem? (i := 18) rfl)
theorem wm_22_19 : Cond.code yX6_isUnsteady cX6_isUnsteady 4 (some .boolean) ∈ wsL_law := wr_22 _ (List.mem_of_getElem? (i := 19) rfl)
theorem wm_22_20 : Cond.methodLink RX6 239 yX6_beginAgain ∈ wsL_law := wr_22 _ (List.mem_of_getElem? (i := 20) rfl)
theorem wm_22_21 : Cond.instanceMethod yX6_beginAgain ∈ wsL_law := wr_22 _ (List.mem_of_getElem? (i := 21) rfl)
theorem wm_22_22 : Cond.selects RX6 yX6_beginAgain yX6_beginAgain ∈ wsL_law := wr_22 _ (List.mem_of_getElem? (i := 22) rfl)
theorem wm_22_23 : Cond.code yX6_beginAgain cX6_beginAgain 6 (some .int) ∈ wsL_law := wr_22 _ (List.mem_of_getElem? (i := 23) rfl)
theorem wm_23_12 : Cond.methodLink RX5 120 yX5_nodesThere ∈ wsL_law := wr_23 _ (List.mem_of_getElem? (i := 12) rfl)
theorem wm_23_13 : Cond.instanceMethod yX5_nodesThere ∈ wsL_law := wr_23 _ (List.mem_of_getElem? (i := 13) rfl)
theorem wm_23_14 : Cond.selects RX5 yX5_nodesThere yX5_nodesThere ∈ wsL_law := wr_23 _ (List.mem_of_getElem? (i := 14) rfl)
theorem wm_23_15 : Cond.code yX5_nodesThere cX5_nodesThere 3 (some .int) ∈ wsL_law := wr_23 _ (List.mem_of_getElem? (i := 15) rfl)
theorem wm_23_16 : Cond.methodLink RX5 124 yX2_tasksOn ∈ wsL_law := wr_23 _ (List.mem_of_getElem? (i := 16) rfl)
theorem wm_23_17 : Cond.instanceMethod yX2_tasksOn ∈ wsL_law := wr_23 _ (List.mem_of_getElem? (i := 17) rfl)
theorem wm_23_18 : Cond.selects RX2 yX2_tasksOn yX2_tasksOn ∈ wsL_law := wr_23 _ (List.mem_of_getElem? (i := 18) rfl)
theorem wm_23_19 : Cond.code yX2_tasksOn cX2_tasksOn 4 (some .int) ∈ wsL_law := wr_23 _ (List.mem_of_getElem? (i := 19) rfl)
theorem wm_23_20 : Cond.fieldLink RX2 42 "RegionRestarts$Task" "node" "I" ∈ wsL_law := wr_23 _ (List.mem_of_getElem? (i := 20) rfl)
theorem wm_23_21 : Cond.methodLink RX5 130 yX5_moveAway ∈ wsL_law := wr_23 _ (List.mem_of_getElem? (i := 21) rfl)
theorem wm_23_22 : Cond.instanceMethod yX5_moveAway ∈ wsL_law := wr_23 _ (List.mem_of_getElem? (i := 22) rfl)
theorem wm_23_23 : Cond.selects RX5 yX5_moveAway yX5_moveAway ∈ wsL_law := wr_23 _ (List.mem_of_getElem? (i := 23) rfl)
theorem wm_24_0 : Cond.code yX5_moveAway cX5_moveAway 3 none ∈ wsL_law := wr_24 _ (List.mem_of_getElem? (i := 0) rfl)
theorem wm_24_1 : Cond.fieldLink RX5 184 "RegionRestarts$Task" "node" "I" ∈ wsL_law := wr_24 _ (List.mem_of_getElem? (i := 1) rfl)
theorem wm_24_2 : Cond.methodLink RX5 304 yX5_emptiestNode ∈ wsL_law := wr_24 _ (List.mem_of_getElem? (i := 2) rfl)
theorem wm_24_3 : Cond.instanceMethod yX5_emptiestNode ∈ wsL_law := wr_24 _ (List.mem_of_getElem? (i := 3) rfl)
theorem wm_24_4 : Cond.selects RX5 yX5_emptiestNode yX5_emptiestNode ∈ wsL_law := wr_24 _ (List.mem_of_getElem? (i := 4) rfl)
theorem wm_24_5 : Cond.code yX5_emptiestNode cX5_emptiestNode 6 (some .int) ∈ wsL_law := wr_24 _ (List.mem_of_getElem? (i := 5) rfl)
theorem wm_24_6 : Cond.methodLink RX5 133 yX2_loseAllFrom ∈ wsL_law := wr_24 _ (List.mem_of_getElem? (i := 6) rfl)
theorem wm_24_7 : Cond.instanceMethod yX2_loseAllFrom ∈ wsL_law := wr_24 _ (List.mem_of_getElem? (i := 7) rfl)
theorem wm_24_8 : Cond.selects RX2 yX2_loseAllFrom yX2_loseAllFrom ∈ wsL_law := wr_24 _ (List.mem_of_getElem? (i := 8) rfl)
theorem wm_24_9 : Cond.code yX2_loseAllFrom cX2_loseAllFrom 3 none ∈ wsL_law := wr_24 _ (List.mem_of_getElem? (i := 9) rfl)
theorem wm_24_10 : Cond.methodLink RX2 97 yX1_loseBehindMark ∈ wsL_law := wr_24 _ (List.mem_of_getElem? (i := 10) rfl)
theorem wm_24_11 : Cond.instanceMethod yX1_loseBehindMark ∈ wsL_law := wr_24 _ (List.mem_of_getElem? (i := 11) rfl)
theorem wm_24_12 : Cond.selects RX1 yX1_loseBehindMark yX1_loseBehindMark ∈ wsL_law := wr_24 _ (List.mem_of_getElem? (i := 12) rfl)
theorem wm_24_13 : Cond.code yX1_loseBehindMark cX1_loseBehindMark 1 none ∈ wsL_law := wr_24 _ (List.mem_of_getElem? (i := 13) rfl)
theorem wm_24_18 : Cond.methodLink RX6 242 yX6_nodesThere ∈ wsL_law := wr_24 _ (List.mem_of_getElem? (i := 18) rfl)
theorem wm_24_19 : Cond.instanceMethod yX6_nodesThere ∈ wsL_law := wr_24 _ (List.mem_of_getElem? (i := 19) rfl)
theorem wm_24_20 : Cond.selects RX6 yX6_nodesThere yX6_nodesThere ∈ wsL_law := wr_24 _ (List.mem_of_getElem? (i := 20) rfl)
theorem wm_24_21 : Cond.code yX6_nodesThere cX6_nodesThere 3 (some .int) ∈ wsL_law := wr_24 _ (List.mem_of_getElem? (i := 21) rfl)
theorem wm_24_22 : Cond.methodLink RX6 246 yX6_emptiest ∈ wsL_law := wr_24 _ (List.mem_of_getElem? (i := 22) rfl)
theorem wm_24_23 : Cond.instanceMethod yX6_emptiest ∈ wsL_law := wr_24 _ (List.mem_of_getElem? (i := 23) rfl)
theorem wm_25_0 : Cond.selects RX6 yX6_emptiest yX6_emptiest ∈ wsL_law := wr_25 _ (List.mem_of_getElem? (i := 0) rfl)
theorem wm_25_1 : Cond.code yX6_emptiest cX6_emptiest 6 (some .int) ∈ wsL_law := wr_25 _ (List.mem_of_getElem? (i := 1) rfl)
theorem wm_25_6 : Cond.fieldLink RX5 146 "RegionRestarts$Channel" "isKept" "Z" ∈ wsL_law := wr_25 _ (List.mem_of_getElem? (i := 6) rfl)
theorem wm_25_7 : Cond.fieldLink RX5 154 "RegionRestarts$Channel" "lost" "I" ∈ wsL_law := wr_25 _ (List.mem_of_getElem? (i := 7) rfl)
theorem wm_25_8 : Cond.fieldLink RX5 157 "RegionRestarts$Channel" "taken" "I" ∈ wsL_law := wr_25 _ (List.mem_of_getElem? (i := 8) rfl)
theorem wm_25_9 : Cond.fieldLink RX5 160 "RegionRestarts$Channel" "held" "I" ∈ wsL_law := wr_25 _ (List.mem_of_getElem? (i := 9) rfl)
theorem wm_25_10 : Cond.fieldLink RX5 163 "RegionRestarts$Channel" "from" "I" ∈ wsL_law := wr_25 _ (List.mem_of_getElem? (i := 10) rfl)
theorem wm_25_11 : Cond.methodLink RX5 151 yX1_loseBehindMark ∈ wsL_law := wr_25 _ (List.mem_of_getElem? (i := 11) rfl)
theorem wm_25_16 : Cond.methodLink RX6 249 yX6_noChannel ∈ wsL_law := wr_25 _ (List.mem_of_getElem? (i := 16) rfl)
theorem wm_25_17 : Cond.instanceMethod yX6_noChannel ∈ wsL_law := wr_25 _ (List.mem_of_getElem? (i := 17) rfl)
theorem wm_25_18 : Cond.selects RX6 yX6_noChannel yX6_noChannel ∈ wsL_law := wr_25 _ (List.mem_of_getElem? (i := 18) rfl)
theorem wm_25_19 : Cond.code yX6_noChannel cX6_noChannel 2 (some .boolean) ∈ wsL_law := wr_25 _ (List.mem_of_getElem? (i := 19) rfl)
theorem wm_26_0 : Cond.constant RX5 166 (1000000) ∈ wsL_law := wr_26 _ (List.mem_of_getElem? (i := 0) rfl)
theorem wm_26_5 : Cond.constant RX6 252 (1000000) ∈ wsL_law := wr_26 _ (List.mem_of_getElem? (i := 5) rfl)
theorem wm_26_10 : Cond.methodLink RX5 172 yX2_countWaiting ∈ wsL_law := wr_26 _ (List.mem_of_getElem? (i := 10) rfl)
theorem wm_26_11 : Cond.instanceMethod yX2_countWaiting ∈ wsL_law := wr_26 _ (List.mem_of_getElem? (i := 11) rfl)
theorem wm_26_12 : Cond.selects RX2 yX2_countWaiting yX2_countWaiting ∈ wsL_law := wr_26 _ (List.mem_of_getElem? (i := 12) rfl)
theorem wm_26_13 : Cond.code yX2_countWaiting cX2_countWaiting 4 (some .int) ∈ wsL_law := wr_26 _ (List.mem_of_getElem? (i := 13) rfl)
theorem wm_26_14 : Cond.methodLink RX2 45 yX4_waitsStill ∈ wsL_law := wr_26 _ (List.mem_of_getElem? (i := 14) rfl)
theorem wm_26_15 : Cond.methodLink RX5 175 yX2_keepAsMark ∈ wsL_law := wr_26 _ (List.mem_of_getElem? (i := 15) rfl)
theorem wm_26_16 : Cond.instanceMethod yX2_keepAsMark ∈ wsL_law := wr_26 _ (List.mem_of_getElem? (i := 16) rfl)
theorem wm_26_17 : Cond.selects RX2 yX2_keepAsMark yX2_keepAsMark ∈ wsL_law := wr_26 _ (List.mem_of_getElem? (i := 17) rfl)
theorem wm_26_18 : Cond.code yX2_keepAsMark cX2_keepAsMark 2 none ∈ wsL_law := wr_26 _ (List.mem_of_getElem? (i := 18) rfl)
theorem wm_26_19 : Cond.methodLink RX2 100 yX4_keepAsMark ∈ wsL_law := wr_26 _ (List.mem_of_getElem? (i := 19) rfl)
theorem wm_26_20 : Cond.methodLink RX2 103 yX1_keepAsMark ∈ wsL_law := wr_26 _ (List.mem_of_getElem? (i := 20) rfl)
theorem wm_27_1 : Cond.methodLink RX6 253 yX6_waiting ∈ wsL_law := wr_27 _ (List.mem_of_getElem? (i := 1) rfl)
theorem wm_27_2 : Cond.instanceMethod yX6_waiting ∈ wsL_law := wr_27 _ (List.mem_of_getElem? (i := 2) rfl)
theorem wm_27_3 : Cond.selects RX6 yX6_waiting yX6_waiting ∈ wsL_law := wr_27 _ (List.mem_of_getElem? (i := 3) rfl)
theorem wm_27_4 : Cond.code yX6_waiting cX6_waiting 3 (some .int) ∈ wsL_law := wr_27 _ (List.mem_of_getElem? (i := 4) rfl)
theorem wm_27_17 : Cond.fieldLink RX5 193 "RegionRestarts$Task" "width" "I" ∈ wsL_law := wr_27 _ (List.mem_of_getElem? (i := 17) rfl)
theorem wm_27_18 : Cond.fieldLink RX5 209 "RegionRestarts$Task" "outCount" "I" ∈ wsL_law := wr_27 _ (List.mem_of_getElem? (i := 18) rfl)
theorem wm_27_19 : Cond.fieldLink RX5 212 "RegionRestarts$Task" "asideCount" "I" ∈ wsL_law := wr_27 _ (List.mem_of_getElem? (i := 19) rfl)
theorem wm_27_20 : Cond.methodLink RX5 199 yX2_doneTasks ∈ wsL_law := wr_27 _ (List.mem_of_getElem? (i := 20) rfl)
theorem wm_27_21 : Cond.methodLink RX5 205 yX5_asNumber ∈ wsL_law := wr_27 _ (List.mem_of_getElem? (i := 21) rfl)
theorem wm_27_22 : Cond.static yX5_asNumber ∈ wsL_law := wr_27 _ (List.mem_of_getElem? (i := 22) rfl)
theorem wm_27_23 : Cond.code yX5_asNumber cX5_asNumber 1 (some .int) ∈ wsL_law := wr_27 _ (List.mem_of_getElem? (i := 23) rfl)
theorem wm_28_8 : Cond.fieldLink RX5 215 "RegionRestarts$Channel" "to" "I" ∈ wsL_law := wr_28 _ (List.mem_of_getElem? (i := 8) rfl)
theorem wm_28_9 : Cond.fieldLink RX5 218 "RegionRestarts$Channel" "given" "I" ∈ wsL_law := wr_28 _ (List.mem_of_getElem? (i := 9) rfl)
theorem wm_28_10 : Cond.fieldLink RX5 224 "RegionRestarts$Channel" "seen" "I" ∈ wsL_law := wr_28 _ (List.mem_of_getElem? (i := 10) rfl)
theorem wm_28_11 : Cond.methodLink RX5 221 yX1_isOverAt ∈ wsL_law := wr_28 _ (List.mem_of_getElem? (i := 11) rfl)
theorem wm_28_20 : Cond.fieldLink RX5 227 "RegionRestarts$Channel" "rows" "[I" ∈ wsL_law := wr_28 _ (List.mem_of_getElem? (i := 20) rfl)
theorem wm_29_5 : Cond.fieldLink RX5 231 "RegionRestarts$Task" "outRows" "[I" ∈ wsL_law := wr_29 _ (List.mem_of_getElem? (i := 5) rfl)
theorem wm_29_14 : Cond.fieldLink RX5 234 "RegionRestarts$Task" "asideNumbers" "[I" ∈ wsL_law := wr_29 _ (List.mem_of_getElem? (i := 14) rfl)
theorem wm_29_23 : Cond.fieldLink RX5 238 "RegionRestarts$Causes" "tasks" "[I" ∈ wsL_law := wr_29 _ (List.mem_of_getElem? (i := 23) rfl)
theorem wm_30_0 : Cond.fieldLink RX5 240 "RegionRestarts$Causes" "times" "[I" ∈ wsL_law := wr_30 _ (List.mem_of_getElem? (i := 0) rfl)
theorem wm_30_1 : Cond.fieldLink RX5 243 "RegionRestarts$Causes" "kinds" "[I" ∈ wsL_law := wr_30 _ (List.mem_of_getElem? (i := 1) rfl)
theorem wm_30_14 : Cond.methodLink RX6 256 yX6_doneMany ∈ wsL_law := wr_30 _ (List.mem_of_getElem? (i := 14) rfl)
theorem wm_30_15 : Cond.instanceMethod yX6_doneMany ∈ wsL_law := wr_30 _ (List.mem_of_getElem? (i := 15) rfl)
theorem wm_30_16 : Cond.selects RX6 yX6_doneMany yX6_doneMany ∈ wsL_law := wr_30 _ (List.mem_of_getElem? (i := 16) rfl)
theorem wm_30_17 : Cond.code yX6_doneMany cX6_doneMany 3 (some .int) ∈ wsL_law := wr_30 _ (List.mem_of_getElem? (i := 17) rfl)
theorem cc_X5_166 : Cond.constant RX5 166 (1000000) ∈ wsL_law := wm_26_0
theorem cc_X5_279 : Cond.constantLong RX5 279 (16807) ∈ wsL_law := wm_19_1
theorem cc_X5_281 : Cond.constantLong RX5 281 (2147483647) ∈ wsL_law := wm_19_2
theorem cc_X5_283 : Cond.constantLong RX5 283 (10) ∈ wsL_law := wm_19_3
theorem cc_X6_191 : Cond.constantLong RX6 191 (16807) ∈ wsL_law := wm_21_14
theorem cc_X6_193 : Cond.constantLong RX6 193 (2147483647) ∈ wsL_law := wm_21_15
theorem cc_X6_252 : Cond.constant RX6 252 (1000000) ∈ wsL_law := wm_26_5
theorem cc_J6_265 : Cond.constant RJ6 265 (1431655765) ∈ wsL_law := wm_18_0
theorem cc_J6_266 : Cond.constant RJ6 266 (858993459) ∈ wsL_law := wm_18_1
theorem cc_J6_267 : Cond.constant RJ6 267 (252645135) ∈ wsL_law := wm_18_2
theorem wsL_good : ∀ w ∈ wsL_law, ((w.onTables && w.keeps) = true ∨ ∃ ty, w = .arrayClass ty) := fun w h => good_of_word (List.all_eq_true.mp (by decide +kernel : wsL_law.all goodWord = true) w h)
theorem mw_max : Cond.static Lib.Math.max.name ∈ wsL_law ∧ Cond.code Lib.Math.max.name Lib.Math.max.code 2 (some .int) ∈ wsL_law := ⟨wm_11_14, wm_11_16⟩
theorem mw_min : Cond.static Lib.Math.min.name ∈ wsL_law ∧ Cond.code Lib.Math.min.name Lib.Math.min.code 2 (some .int) ∈ wsL_law := ⟨wm_12_11, wm_12_12⟩
theorem mw_ini : Cond.initialized "java/lang/Math" ∈ wsL_law := wm_11_15
theorem mm_X5_167 : Cond.methodLink RX5 167 Lib.Math.min.name ∈ wsL_law := wm_17_1
theorem mm_X5_295 : Cond.methodLink RX5 295 Lib.Math.max.name ∈ wsL_law := wm_15_15
theorem mm_X1_60 : Cond.methodLink RX1 60 Lib.Math.max.name ∈ wsL_law := wm_16_21
theorem mm_X1_70 : Cond.methodLink RX1 70 Lib.Math.min.name ∈ wsL_law := wm_17_18
theorem mm_X2_80 : Cond.methodLink RX2 80 Lib.Math.min.name ∈ wsL_law := wm_12_10
theorem mm_X4_67 : Cond.methodLink RX4 67 Lib.Math.max.name ∈ wsL_law := wm_11_13
end
section
/-! ===== a memory of fixed shape: families of cells. fS: which system; fK: 1 objects, 2 arrays; fC: number of the class, or of the array's type; fL: length of an array; fN: members; fP: where a reference leads (family, member); classes, cty, aty, nAt: printed with the names ===== -/
abbrev sm_M : Type := (Nat → Nat → Nat → Int32) × (Nat → Nat → Nat → Int64)
def sm_up {α : Type} (f : Nat → Nat → Nat → α) (φ i k : Nat) (v : α) : Nat → Nat → Nat → α := fun ψ j n => if ψ = φ ∧ j = i ∧ n = k then v else f ψ j n
def wI (σ : sm_M) (φ i k : Nat) (v : Int32) : sm_M := (sm_up σ.1 φ i k v, σ.2)
def wJ (σ : sm_M) (φ i k : Nat) (v : Int64) : sm_M := (σ.1, sm_up σ.2 φ i k v)
/-- the value of a place, by its type -/
def sm_v (ty : FieldType) (α : Nat → Nat → Nat) (σ : sm_M) (φ i k : Nat) : Value := match ty with
  | .long => .long (σ.2 φ i k)
  | .object _ => .ref (α (fP φ i k).1 (fP φ i k).2)
  | .array _ => .ref (α (fP φ i k).1 (fP φ i k).2)
  | _ => .int (σ.1 φ i k)
theorem sm_v_I {α : Nat → Nat → Nat} {σ : sm_M} {φ i k ψ j n : Nat} {x : Int32} (ty : FieldType) (h : ¬ (ψ = φ ∧ j = i ∧ n = k)) : sm_v ty α (wI σ φ i k x) ψ j n = sm_v ty α σ ψ j n := by
  cases ty <;> simp [sm_v, wI, sm_up, h]
theorem sm_v_J {α : Nat → Nat → Nat} {σ : sm_M} {φ i k ψ j n : Nat} {x : Int64} (ty : FieldType) (h : ¬ (ψ = φ ∧ j = i ∧ n = k)) : sm_v ty α (wJ σ φ i k x) ψ j n = sm_v ty α σ ψ j n := by
  cases ty <;> simp [sm_v, wJ, sm_up, h]
/-- one place has changed -/
def sm_U (α : Nat → Nat → Nat) (σ σ' : sm_M) (φ i k : Nat) (ty : FieldType) (v : Value) : Prop := (∀ (t : FieldType) (ψ j n : Nat), ¬ (ψ = φ ∧ j = i ∧ n = k) → sm_v t α σ' ψ j n = sm_v t α σ ψ j n) ∧ sm_v ty α σ' φ i k = v
/-! ===== the pure operations: none where the machine would throw ===== -/
def sI (φ k : Nat) (σ : sm_M) (i : Nat) (v : Int32) : Option sm_M := some (wI σ φ i k v)
def sZ (φ k : Nat) (σ : sm_M) (i : Nat) (v : Int32) : Option sm_M := if v = 0 ∨ v = 1 then some (wI σ φ i k v) else none
def sJ (φ k : Nat) (σ : sm_M) (i : Nat) (v : Int64) : Option sm_M := some (wJ σ φ i k v)
def inA (φ : Nat) (x : Int32) : Prop := ¬ x < 0 ∧ x.toNatClampNeg < fL φ
def aI (φ : Nat) (σ : sm_M) (i : Nat) (x : Int32) : Option Int32 := if ¬ x < 0 ∧ x.toNatClampNeg < fL φ then some (σ.1 φ i x.toNatClampNeg) else none
def aP (φ : Nat) (x : Int32) : Option Nat := if ¬ x < 0 ∧ x.toNatClampNeg < fL φ then some x.toNatClampNeg else none
def uI (φ : Nat) (σ : sm_M) (i : Nat) (x v : Int32) : Option sm_M := if ¬ x < 0 ∧ x.toNatClampNeg < fL φ then some (wI σ φ i x.toNatClampNeg v) else none
def uZ (φ : Nat) (σ : sm_M) (i : Nat) (x v : Int32) : Option sm_M := if ¬ x < 0 ∧ x.toNatClampNeg < fL φ then some (wI σ φ i x.toNatClampNeg (v &&& 1)) else none
theorem o_b {α β : Type} {o : Option α} {f : α → Option β} {q : β} (h : o.bind f = some q) : ∃ v, o = some v ∧ f v = some q := by
  cases o with
  | none => cases h
  | some v => exact ⟨v, rfl, h⟩
theorem o_i {α : Type} {c : Prop} [Decidable c] {x : α} {q : α} (h : (if c then some x else none) = some q) : c ∧ x = q := by
  by_cases hc : c
  · rw [if_pos hc] at h; exact ⟨hc, Option.some.inj h⟩
  · rw [if_neg hc] at h; cases h
theorem o_j {α : Type} {c : Prop} [Decidable c] {x : Option α} {q : α} (h : (if c then x else none) = some q) : c ∧ x = some q := by
  by_cases hc : c
  · rw [if_pos hc] at h; exact ⟨hc, h⟩
  · rw [if_neg hc] at h; cases h
theorem o_t {α : Type} {c : Prop} [Decidable c] {x y q : α} (hc : c) (h : (if c then x else y) = q) : x = q := by rw [if_pos hc] at h; exact h
theorem o_f {α : Type} {c : Prop} [Decidable c] {x y q : α} (hc : ¬ c) (h : (if c then x else y) = q) : y = q := by rw [if_neg hc] at h; exact h
theorem o_n {α : Type} {c : Prop} [Decidable c] {x : Option α} {q : α} (h : (if c then none else x) = some q) : ¬ c ∧ x = some q := by
  by_cases hc : c
  · rw [if_pos hc] at h; cases h
  · rw [if_neg hc] at h; exact ⟨hc, h⟩
theorem t_out {x : Int32} (lo hi : Int) (h : ∀ z : Int, lo ≤ z → z ≤ hi → ¬ x = Int32.ofInt z) : x.toInt < lo ∨ hi < x.toInt := by
  by_cases h1 : x.toInt < lo
  · exact Or.inl h1
  · by_cases h2 : hi < x.toInt
    · exact Or.inr h2
    · exact absurd (Int32.ofInt_toInt x).symm (h x.toInt (by omega) (by omega))
theorem t_look {x : Int32} {a b oa ob d : Int} (h1 : ¬ x.toInt = a) (h2 : ¬ x.toInt = b) : Op.lookupswitch.offset [(a, oa), (b, ob)] d x.toInt = d := by
  simp [Op.lookupswitch.offset, Ne.symm h1, Ne.symm h2]
theorem aP_lt {φ j : Nat} {x : Int32} (h : aP φ x = some j) : j < fL φ := by
  obtain ⟨h1, h2⟩ := o_i h
  exact h2 ▸ h1.2
/-! ===== what the heap holds of system Z ===== -/
def mm_tys (dA : Nat → ClassId) : List (ClassId × FieldType) := (List.range nAt).map fun t => (dA t, aty t)
theorem mm_tys_at {dA : Nat → ClassId} {t : Nat} (ht : t < nAt) : (mm_tys dA)[t]? = some (dA t, aty t) := by
  simp [mm_tys, ht]
def Ad (Z : Nat) (α : Nat → Nat → Nat) (q : Nat) : Prop := ∃ φ i : Nat, fS φ = Z ∧ i < fN φ ∧ q = α φ i
def Inj (Z : Nat) (α : Nat → Nat → Nat) : Prop := ∀ φ i ψ j : Nat, fS φ = Z → i < fN φ → fS ψ = Z → j < fN ψ → α φ i = α ψ j → φ = ψ ∧ i = j
def Rep (D : va_G) (dA : Nat → ClassId) (Z : Nat) (α : Nat → Nat → Nat) (σ : sm_M) (H : Heap) : Prop :=
  ∀ φ i : Nat, fS φ = Z → i < fN φ →
  (fK φ = 1 → ∃ r : vw_C, classes[fC φ]? = some r ∧ t_OB (α φ i) (D.1 (fC φ)) r.2.2 (D.2 (fC φ)) H (fun k => sm_v (cty (fC φ) k) α σ φ i k)) ∧
  (fK φ = 2 → H[α φ i]? = some (arrV (dA (fC φ)) (fL φ) (fun j => sm_v (aty (fC φ)) α σ φ i j)))
/-- the world in a walk: since the start H0 of the method nothing outside the system has changed -/
def Wd (D : va_G) (dA : Nat → ClassId) (Z : Nat) (α : Nat → Nat → Nat) (H0 : Heap) (σ : sm_M) (H : Heap) (locs : List Loc) : Prop :=
  Rep D dA Z α σ H ∧ (∀ q : Nat, ¬ Ad Z α q → H[q]? = H0[q]?) ∧ (∀ x ∈ locs, Ad Z α x.base) ∧ Inj Z α
theorem Rep.put {D : va_G} {dA : Nat → ClassId} {Z : Nat} {α : Nat → Nat → Nat} {σ σ' : sm_M} {H H1 : Heap} {φ i k : Nat} {ty : FieldType} {v : Value} (hI : Inj Z α) (hS : fS φ = Z) (hN : i < fN φ) (h : Rep D dA Z α σ H) (hU : sm_U α σ σ' φ i k ty v) (oq : ∀ q : Nat, q ≠ α φ i → H1[q]? = H[q]?)
    (hob : fK φ = 1 → ∃ r : vw_C, classes[fC φ]? = some r ∧ t_OB (α φ i) (D.1 (fC φ)) r.2.2 (D.2 (fC φ)) H1 (fun k => sm_v (cty (fC φ) k) α σ' φ i k))
    (har : fK φ = 2 → H1[α φ i]? = some (arrV (dA (fC φ)) (fL φ) (fun j => sm_v (aty (fC φ)) α σ' φ i j))) : Rep D dA Z α σ' H1 := by
  obtain ⟨u3, u4⟩ := hU
  intro ψ j hψ hj
  by_cases e : ψ = φ ∧ j = i
  · obtain ⟨rfl, rfl⟩ := e; exact ⟨hob, har⟩
  · have hne : α ψ j ≠ α φ i := fun q => e (hI ψ j φ i hψ hj hS hN q)
    refine ⟨fun hk => ?_, fun hk => ?_⟩
    · obtain ⟨r, hr, ho⟩ := (h ψ j hψ hj).1 hk
      exact ⟨r, hr, (ho.kept (oq _ hne)).to (fun n _ => (u3 _ ψ j n (fun q => e ⟨q.1, q.2.1⟩)).symm)⟩
    · rw [oq _ hne, (h ψ j hψ hj).2 hk]
      congr 2
      funext n
      exact (u3 _ ψ j n (fun q => e ⟨q.1, q.2.1⟩)).symm
theorem Wd.put {D : va_G} {dA : Nat → ClassId} {Z : Nat} {α : Nat → Nat → Nat} {H0 : Heap} {σ σ' : sm_M} {H H1 : Heap} {locs : List Loc} {φ i n : Nat} (hS : fS φ = Z) (hN : i < fN φ) (h : Wd D dA Z α H0 σ H locs) (oq : ∀ q : Nat, q ≠ α φ i → H1[q]? = H[q]?) (hR : Rep D dA Z α σ' H1) : Wd D dA Z α H0 σ' H1 (locs ++ [⟨α φ i, n⟩]) := by
  have hA : Ad Z α (α φ i) := ⟨φ, i, hS, hN, rfl⟩
  refine ⟨hR, fun q hq => ?_, fun x hx => ?_, h.2.2.2⟩
  · rw [oq q (fun e => hq (by rw [e]; exact hA))]; exact h.2.1 q hq
  · rcases List.mem_append.mp hx with g | g
    · exact h.2.2.1 x g
    · rw [List.mem_singleton.mp g]; exact hA
/-- the links among nest mates -/
def nW (U : State) : Prop := va_Nw (.methodLinkNest RX1 53 yX5_isIn "RegionRestarts") U ∧ va_Nw (.methodLinkNest RX2 94 yX5_isIn "RegionRestarts") U ∧ va_Nw (.methodLinkNest RX2 23 yX4_init "RegionRestarts") U ∧ va_Nw (.methodLinkNest RX2 24 yX1_init "RegionRestarts") U ∧ va_Nw (.methodLinkNest RX5 18 yX3_init "RegionRestarts") U ∧ va_Nw (.methodLinkNest RX5 25 yX0_init "RegionRestarts") U
theorem nW.same {u U : State} (h : u.vm = U.vm) (hZ : nW u) : nW U := ⟨va_Nw.same rfl h hZ.1, va_Nw.same rfl h hZ.2.1, va_Nw.same rfl h hZ.2.2.1, va_Nw.same rfl h hZ.2.2.2.1, va_Nw.same rfl h hZ.2.2.2.2.1, va_Nw.same rfl h hZ.2.2.2.2.2⟩
theorem nW.warm {s U : State} (hW : s.WarmedH U.vm) (hZ : nW s) : nW U := ⟨va_Nw.warmM hW hZ.1, va_Nw.warmM hW hZ.2.1, va_Nw.warmM hW hZ.2.2.1, va_Nw.warmM hW hZ.2.2.2.1, va_Nw.warmM hW hZ.2.2.2.2.1, va_Nw.warmM hW hZ.2.2.2.2.2⟩
def gx (p : Program) (s : State) (m : MethodId) (meth : Method) (c : Code) (args : Array Value) (cc : ByteArray) (nL : Nat) (ret : Option FieldType) (own nm : String) (D : va_G) (dA : Nat → ClassId) : Prop :=
  p.tables.exec = Jvm.exec ∧ c.code = cc ∧ meth.sig.returnType = ret ∧ meth.locks = false ∧ c.maxLocals = nL ∧ s.vm.findClass own = some m.cls ∧ meth.name = nm ∧ (∀ w ∈ wsL_law, w.before args s = true) ∧ va_K D classes (mm_tys dA) s ∧ nW s
section SMR
variable {p : Program} {l : Launch} {e : Env} {R : Room} {s : State} {m : MethodId} {args : Array Value} {below : List Frame} {meth : Method} {c : Code} {H : Heap} {locs : List Loc} {cells slots : Nat} {Q : State → Prop}
variable {cc : ByteArray} {pc nL d φ i Z : Nat} {ls : Array Slot} {rest : List Value} {D : va_G} {dA : Nat → ClassId} {α : Nat → Nat → Nat} {H0 : Heap} {σ σ' : sm_M} {ret : Option FieldType} {own nm : String}
theorem g_get (G : gx p s m meth c args cc nL ret own nm D dA) {ref C : String} {T : u_T} {N ci index : Nat} (hin : ∀ w ∈ u_ws C T N, w ∈ wsL_law) (hc : classes[ci]? = some (C, T, N)) (k : Nat) (hk : k < N) (hlink : Cond.fieldLink own index ref (T k).2.1 (T k).2.2.1 ∈ wsL_law) (href : (T k).1 = ref) (hS : fS φ = Z) (hfK : fK φ = 1) (hfC : fC φ = ci) (hW : Wd D dA Z α H0 σ H locs) (hN : i < fN φ) {v : Value} (hv : sm_v (cty ci k) α σ φ i k = v) (hdg : decode cc pc = .ok (.getfield index, 3))
    (kk : W p l e R s m args below meth c H locs cells slots Q (F0 m (pc + 3) ls (v :: rest))) : W p l e R s m args below meth c H locs cells slots Q (F0 m pc ls (.ref (α φ i) :: rest)) := by
  obtain ⟨hx, hb, hr, hlk, hml, hown, hnm, hts, hK, hNw⟩ := G
  subst hfC
  obtain ⟨r, h1, cell, q1, q2, q3, q4⟩ := (hW.1 φ i hS hN).1 hfK
  have hr : r = (C, T, N) := Option.some.inj (h1.symm.trans hc)
  subst hr
  obtain ⟨hSl, hfc, kC, hkC, hkind⟩ := hK.1 _ _ hc
  obtain ⟨cf, kf, fi, f, hi, hsl⟩ := hSl k hk
  refine W.getf hx hb hown (hts _ hlink) (by rw [← href]; exact hi) (u_facts hfc hkC (u_lays hts hin hk) hi).1 q1 (by rw [q3]; exact fun h => by cases h) (v := v) ?_ rfl rfl hdg kk
  rw [hsl, q4 k hk]; exact congrArg some hv
theorem g_put (G : gx p s m meth c args cc nL ret own nm D dA) {ref C : String} {T : u_T} {N ci index : Nat} (hin : ∀ w ∈ u_ws C T N, w ∈ wsL_law) (ty0 : Nat → FieldType) (hty : ∀ k, k < N → parseFieldDescriptor (T k).2.2.1 = some (ty0 k)) (hnm : ∀ a, a < N → ∀ b, b < N → a ≠ b → (T a).2.1 ≠ (T b).2.1) (hc : classes[ci]? = some (C, T, N)) (k : Nat) (hk : k < N) (hlink : Cond.fieldLink own index ref (T k).2.1 (T k).2.2.1 ∈ wsL_law) (href : (T k).1 = ref) (hfin : (T k).2.2.2 = false) {ty : FieldType} {v : Value} (hd : parseFieldDescriptor (T k).2.2.1 = some ty) (hn : narrow ty v = v) (hfit : fits ty v = true) (hS : fS φ = Z) (hfK : fK φ = 1) (hfC : fC φ = ci) (hW : Wd D dA Z α H0 σ H locs) (hN : i < fN φ) (hU : sm_U α σ σ' φ i k (cty ci k) v)
    (hdg : decode cc pc = .ok (.putfield index, 3)) (kk : ∀ (H1 : Heap) (locs1 : List Loc), Wd D dA Z α H0 σ' H1 locs1 → W p l e R s m args below meth c H1 locs1 cells slots Q (F0 m (pc + 3) ls rest)) : W p l e R s m args below meth c H locs cells slots Q (F0 m pc ls (v :: .ref (α φ i) :: rest)) := by
  obtain ⟨hx, hb, hr, hlk, hml, hown, hnm0, hts, hK, hNw⟩ := G
  subst hfC
  have hap := va_apart (own := own) hts hin ty0 hty hnm hK hc
  obtain ⟨r, h1, cell, q1, q2, q3, q4⟩ := (hW.1 φ i hS hN).1 hfK
  have hr : r = (C, T, N) := Option.some.inj (h1.symm.trans hc)
  subst hr
  obtain ⟨hSl, hfc, kC, hkC, hkind⟩ := hK.1 _ _ hc
  obtain ⟨cf, kf, fi, f, hi, hsl⟩ := hSl k hk
  have hlay := hts _ (hin _ (u_in_lay hk))
  unfold u_lay at hlay
  rw [if_neg (by rw [hfin]; decide)] at hlay
  have hst := (u_facts hfc hkC (u_lays hts hin hk) hi).1
  have h6 := u_store hfc hkC hkind hlay hi hd hn hfit
  refine W.putK hx hb (f := f) ⟨hown, hts _ hlink, ⟨_, _, _, by rw [← href]; exact hi⟩, hst⟩ (by rw [q2]; exact h6) q1 q3 (by rw [hsl]; exact k2_hasslot (q4 k hk)) rfl rfl hdg fun H' e1 e2 e3 => ?_
  rw [hsl] at e1 ⊢
  refine kk H' _ (hW.put hS hN e3 (hW.1.put hW.2.2.2 hS hN hU e3 (fun _ => ?_) (fun h => by rw [hfK] at h; cases h)))
  refine ⟨_, hc, t_OB.to (V := updV (fun j => sm_v (cty (fC φ) j) α σ φ i j) k v) ⟨_, e1, q2, q3, t_set q4 hap hk v⟩ (fun j _ => ?_)⟩
  by_cases hj : j = k
  · subst hj; simp [updV]; exact hU.2.symm
  · simp [updV, hj]; exact (hU.1 _ φ i j (fun q => hj q.2.2)).symm
/-- arrays: reading -/
theorem g_aI (G : gx p s m meth c args cc nL ret own nm D dA) (hS : fS φ = Z) (hfK : fK φ = 2) (ht : fC φ < nAt) (hty : aty (fC φ) = .int) (hW : Wd D dA Z α H0 σ H locs) (hN : i < fN φ) {x v : Int32} (h : aI φ σ i x = some v) (hdg : decode cc pc = .ok (.iaload, 1))
    (kk : W p l e R s m args below meth c H locs cells slots Q (F0 m (pc + 1) ls (.int v :: rest))) : W p l e R s m args below meth c H locs cells slots Q (F0 m pc ls (.int x :: .ref (α φ i) :: rest)) := by
  obtain ⟨hx, hb, hr, hlk, hml, hown, hnm, hts, hK, hNw⟩ := G
  obtain ⟨⟨h2, h3⟩, hv⟩ := o_i h
  have hc := (hW.1 φ i hS hN).2 hfK
  have hA := (hK.2 _ _ (mm_tys_at ht)).1 (fL φ) (fun j => sm_v (aty (fC φ)) α σ φ i j)
  exact W.iald (v := .int v) hx hb hc (by rw [hty] at hA ⊢; exact hA) (fun q => by cases q) (by rw [arrV_size]; exact fun q => q.elim h2 (fun q => absurd h3 (Nat.not_lt.mpr q))) (by rw [arrV_read _ _ h3, hty, ← hv]; rfl) rfl rfl hdg kk
theorem g_aZ (G : gx p s m meth c args cc nL ret own nm D dA) (hS : fS φ = Z) (hfK : fK φ = 2) (ht : fC φ < nAt) (hty : aty (fC φ) = .boolean) (hW : Wd D dA Z α H0 σ H locs) (hN : i < fN φ) {x v : Int32} (h : aI φ σ i x = some v) (hdg : decode cc pc = .ok (.baload, 1))
    (kk : W p l e R s m args below meth c H locs cells slots Q (F0 m (pc + 1) ls (.int v :: rest))) : W p l e R s m args below meth c H locs cells slots Q (F0 m pc ls (.int x :: .ref (α φ i) :: rest)) := by
  obtain ⟨hx, hb, hr, hlk, hml, hown, hnm, hts, hK, hNw⟩ := G
  obtain ⟨⟨h2, h3⟩, hv⟩ := o_i h
  have hc := (hW.1 φ i hS hN).2 hfK
  have hA := (hK.2 _ _ (mm_tys_at ht)).1 (fL φ) (fun j => sm_v (aty (fC φ)) α σ φ i j)
  exact W.zald (v := .int v) hx hb hc (by rw [hty] at hA ⊢; exact hA) (fun q => by cases q) (by rw [arrV_size]; exact fun q => q.elim h2 (fun q => absurd h3 (Nat.not_lt.mpr q))) (by rw [arrV_read _ _ h3, hty, ← hv]; rfl) rfl rfl hdg kk
/-- a row of references: its place j leads to member j of family ψ (or of an object's own row i: by fP) -/
theorem g_aP (G : gx p s m meth c args cc nL ret own nm D dA) (hS : fS φ = Z) (hfK : fK φ = 2) (ht : fC φ < nAt) {ety : FieldType} (hety : ety.isReference = true) (hty : aty (fC φ) = ety) {ψ : Nat} (hv : ∀ j, sm_v ety α σ φ i j = .ref (α ψ j)) (hW : Wd D dA Z α H0 σ H locs) (hN : i < fN φ) {x : Int32} {j : Nat} (h : aP φ x = some j) (hdg : decode cc pc = .ok (.aaload, 1))
    (kk : W p l e R s m args below meth c H locs cells slots Q (F0 m (pc + 1) ls (.ref (α ψ j) :: rest))) : W p l e R s m args below meth c H locs cells slots Q (F0 m pc ls (.int x :: .ref (α φ i) :: rest)) := by
  obtain ⟨hx, hb, hr, hlk, hml, hown, hnm, hts, hK, hNw⟩ := G
  obtain ⟨⟨h2, h3⟩, hj⟩ := o_i h
  have hc := (hW.1 φ i hS hN).2 hfK
  have hA := (hK.2 _ _ (mm_tys_at ht)).1 (fL φ) (fun j => sm_v (aty (fC φ)) α σ φ i j)
  exact W.aald (v := .ref (α ψ j)) (ty := ety) hx hb hc (by rw [hty] at hA ⊢; exact hA) hety (fun q => by cases q) (by rw [arrV_size]; exact fun q => q.elim h2 (fun q => absurd h3 (Nat.not_lt.mpr q))) (by rw [arrV_read _ _ h3, hty, hv, hj]) rfl rfl hdg kk
/-- arrays: writing -/
theorem g_uX (hS : fS φ = Z) (hfK : fK φ = 2) (hN : i < fN φ) (hW : Wd D dA Z α H0 σ H locs) {k : Nat} {v : Value} {H1 : Heap} (hU : sm_U α σ σ' φ i k (aty (fC φ)) v) (e1 : H1[α φ i]? = some ((arrV (dA (fC φ)) (fL φ) (fun j => sm_v (aty (fC φ)) α σ φ i j)).setSlot k v)) (oq : ∀ q : Nat, q ≠ α φ i → H1[q]? = H[q]?) : Wd D dA Z α H0 σ' H1 (locs ++ [⟨α φ i, k⟩]) := by
  refine hW.put hS hN oq (hW.1.put hW.2.2.2 hS hN hU oq (fun h => by rw [hfK] at h; cases h) (fun _ => ?_))
  rw [e1, arrV_store]
  congr 2
  funext j
  by_cases hj : j = k
  · subst hj; simp [updV]; exact hU.2.symm
  · simp [updV, hj]; exact (hU.1 _ φ i j (fun q => hj q.2.2)).symm
theorem g_uI (G : gx p s m meth c args cc nL ret own nm D dA) (hS : fS φ = Z) (hfK : fK φ = 2) (ht : fC φ < nAt) (hty : aty (fC φ) = .int) (hW : Wd D dA Z α H0 σ H locs) (hN : i < fN φ) {x v : Int32} (h : uI φ σ i x v = some σ') (hdg : decode cc pc = .ok (.iastore, 1))
    (kk : ∀ (H1 : Heap) (locs1 : List Loc), Wd D dA Z α H0 σ' H1 locs1 → W p l e R s m args below meth c H1 locs1 cells slots Q (F0 m (pc + 1) ls rest)) : W p l e R s m args below meth c H locs cells slots Q (F0 m pc ls (.int v :: .int x :: .ref (α φ i) :: rest)) := by
  obtain ⟨hx, hb, hr, hlk, hml, hown, hnm, hts, hK, hNw⟩ := G
  obtain ⟨⟨h2, h3⟩, hv⟩ := o_i h
  have hc := (hW.1 φ i hS hN).2 hfK
  have hA := (hK.2 _ _ (mm_tys_at ht)).1 (fL φ) (fun j => sm_v (aty (fC φ)) α σ φ i j)
  refine W.iast hx hb hc (by rw [hty] at hA ⊢; exact hA) (fun q => by cases q) (by rw [arrV_size]; exact fun q => q.elim h2 (fun q => absurd h3 (Nat.not_lt.mpr q))) rfl rfl hdg fun H1 e1 z oq => ?_
  refine kk H1 _ (g_uX hS hfK hN hW (v := .int v) ⟨fun ty ψ j n q => by rw [← hv]; exact sm_v_I ty q, by rw [← hv, hty]; simp [sm_v, wI, sm_up]⟩ e1 oq)
theorem g_uZ (G : gx p s m meth c args cc nL ret own nm D dA) (hS : fS φ = Z) (hfK : fK φ = 2) (ht : fC φ < nAt) (hty : aty (fC φ) = .boolean) (hW : Wd D dA Z α H0 σ H locs) (hN : i < fN φ) {x v : Int32} (h : uZ φ σ i x v = some σ') (hdg : decode cc pc = .ok (.bastore, 1))
    (kk : ∀ (H1 : Heap) (locs1 : List Loc), Wd D dA Z α H0 σ' H1 locs1 → W p l e R s m args below meth c H1 locs1 cells slots Q (F0 m (pc + 1) ls rest)) : W p l e R s m args below meth c H locs cells slots Q (F0 m pc ls (.int v :: .int x :: .ref (α φ i) :: rest)) := by
  obtain ⟨hx, hb, hr, hlk, hml, hown, hnm, hts, hK, hNw⟩ := G
  obtain ⟨⟨h2, h3⟩, hv⟩ := o_i h
  have hc := (hW.1 φ i hS hN).2 hfK
  have hA := (hK.2 _ _ (mm_tys_at ht)).1 (fL φ) (fun j => sm_v (aty (fC φ)) α σ φ i j)
  refine W.zast hx hb hc (by rw [hty] at hA ⊢; exact hA) (fun q => by cases q) (by rw [arrV_size]; exact fun q => q.elim h2 (fun q => absurd h3 (Nat.not_lt.mpr q))) rfl rfl hdg fun H1 e1 z oq => ?_
  refine kk H1 _ (g_uX hS hfK hN hW (v := .int (v &&& 1)) ⟨fun ty ψ j n q => by rw [← hv]; exact sm_v_I ty q, by rw [← hv, hty]; simp [sm_v, wI, sm_up]⟩ e1 oq)
/-- the receiver's cell -/
theorem g_recv {ci : Nat} {q : vw_C} (hK : va_K D classes (mm_tys dA) s) (hS : fS φ = Z) (hfK : fK φ = 1) (hfC : fC φ = ci) (hN : i < fN φ) (hR : Rep D dA Z α σ H) (hc : classes[ci]? = some q) : ∃ cell : Cell, H[α φ i]? = some cell ∧ cell.vm.isStatics = false ∧ s.vm.findClass q.1 = some cell.cls := by
  subst hfC
  obtain ⟨q', h1, cell, g1, g2, g3, -⟩ := (hR φ i hS hN).1 hfK
  exact ⟨cell, g1, by rw [g3]; rfl, by rw [g2]; exact (hK.1 _ q hc).2.1⟩
end SMR
end
section
/-! ===== contracts over the memory of fixed shape ===== -/
def rmD (d : Nat) : Room := { frames := d, cells := 0, slots := 0, locals := 44 * d }
def sm_Pc (D : va_G) (dA : Nat → ClassId) (Z : Nat) (α : Nat → Nat → Nat) (av : List Value) (σ : sm_M) : Array Value → State → Prop := fun v U => v = av.toArray ∧ Rep D dA Z α σ U.heap ∧ va_K D classes (mm_tys dA) U ∧ nW U
def sm_Qc (D : va_G) (dA : Nat → ClassId) (Z : Nat) (α : Nat → Nat → Nat) (r : Option Value) (σ' : sm_M) : Array Value → State → Outcome → State → Prop := fun _ st o t => o = .returned r ∧ Rep D dA Z α σ' t.heap ∧ ∀ q : Nat, ¬ Ad Z α q → t.heap[q]? = st.heap[q]?
theorem sm_blind {D : va_G} {dA : Nat → ClassId} {Z : Nat} {α : Nat → Nat → Nat} {av : List Value} {σ : sm_M} : FrameBlind (sm_Pc D dA Z α av σ) := fun a U g mk h => ⟨h.1, h.2.1, va_K.moved (u := U) (U := U.calling g mk a) (Vm.Alike.refl U.vm) h.2.2.1, nW.same rfl h.2.2.2⟩
abbrev gM (l : Launch) (D : va_G) (dA : Nat → ClassId) (Z : Nat) (α : Nat → Nat → Nat) (y : MethodName) (bytes : ByteArray) (maxL : Nat) (rt : Option FieldType) (d : Nat) (av : List Value) (σ : sm_M) (r : Option Value) (σ' : sm_M) : Prop :=
  Met l y (Cond.code y bytes maxL rt :: wsL_law) (rmD d) (sm_Pc D dA Z α av σ) (sm_Qc D dA Z α r σ') 0 0 (Ad Z α)
abbrev gW (d : Nat) (p : Program) (l : Launch) (e : Env) (s : State) (m : MethodId) (args : Array Value) (below : List Frame) (meth : Method) (c : Code) (D : va_G) (dA : Nat → ClassId) (Z : Nat) (α : Nat → Nat → Nat) (rv : Option Value) (σz : sm_M) (H : Heap) (locs : List Loc) (g : JFrame) : Prop :=
  W p l e (rmD d) s m args below meth c H locs 0 0 (MQ below (sm_Qc D dA Z α rv σz) args s 0 0 (Ad Z α)) g
section SMC
variable {p : Program} {l : Launch} {e : Env} {R : Room} {s : State} {m : MethodId} {args : Array Value} {below : List Frame} {meth : Method} {c : Code} {H : Heap} {locs : List Loc} {cells slots : Nat} {Q : State → Prop}
variable {cc : ByteArray} {pc nL d Z : Nat} {ls : Array Slot} {rest : List Value} {D : va_G} {dA : Nat → ClassId} {α : Nat → Nat → Nat} {H0 : Heap} {σ σ' σz : sm_M} {ret : Option FieldType} {own nm : String}
theorem g_iret (G : gx p s m meth c args cc nL (some .int) own nm D dA) (hW : Wd D dA Z α s.heap σ H locs) {v r : Int32} (hF : some (v, σ) = some (r, σz)) (hdg : decode cc pc = .ok (.ireturn, 1)) : gW d p l e s m args below meth c D dA Z α (some (.int r)) σz H locs (F0 m pc ls [.int v]) := by
  obtain ⟨hx, hb, hr, hlk, hml, hown, hnm, hts, hK, hNw⟩ := G
  cases hF
  exact W.iret hx hb hr (fun t ht _ => ⟨rfl, by rw [ht]; exact hW.1, fun q hq => by rw [ht]; exact hW.2.1 q hq⟩) hW.2.2.1 hdg (hlocks := hlk)
theorem g_zret (G : gx p s m meth c args cc nL (some .boolean) own nm D dA) (hW : Wd D dA Z α s.heap σ H locs) {v r : Int32} (hF : (if v = 0 ∨ v = 1 then some (v, σ) else none) = some (r, σz)) (hdg : decode cc pc = .ok (.ireturn, 1)) : gW d p l e s m args below meth c D dA Z α (some (.int r)) σz H locs (F0 m pc ls [.int v]) := by
  obtain ⟨hx, hb, hr, hlk, hml, hown, hnm, hts, hK, hNw⟩ := G
  obtain ⟨hz, hF⟩ := o_i hF
  cases hF
  exact W.zret hx hb hr (by rcases hz with rfl | rfl <;> rfl) (fun t ht _ => ⟨rfl, by rw [ht]; exact hW.1, fun q hq => by rw [ht]; exact hW.2.1 q hq⟩) hW.2.2.1 hdg (hlocks := hlk)
theorem g_vret (G : gx p s m meth c args cc nL none own nm D dA) (hW : Wd D dA Z α s.heap σ H locs) (hF : some σ = some σz) (hdg : decode cc pc = .ok (.return_, 1)) : gW d p l e s m args below meth c D dA Z α none σz H locs (F0 m pc ls []) := by
  obtain ⟨hx, hb, hr, hlk, hml, hown, hnm, hts, hK, hNw⟩ := G
  cases hF
  exact W.vret hx hb hr (fun t ht _ => ⟨rfl, by rw [ht]; exact hW.1, fun q hq => by rw [ht]; exact hW.2.1 q hq⟩) hW.2.2.1 hdg (hlocks := hlk)
theorem g_call {st0 : List Value} {av : Array Value} {r : Option Value} (hr : va_Run p l e R s m args below meth c H locs cells slots 0 0 (F0 m pc ls st0) rest (sm_Qc D dA Z α r σ' av) (Ad Z α)) (hW : Wd D dA Z α H0 σ H locs)
    (kk : ∀ (H1 : Heap) (locs1 : List Loc), Wd D dA Z α H0 σ' H1 locs1 → W p l e R s m args below meth c H1 locs1 cells slots Q (F0 m (pc + 3) ls (r.toList ++ rest))) : W p l e R s m args below meth c H locs cells slots Q (F0 m pc ls st0) := by
  intro T hT X
  obtain ⟨v, st₀, t, T', L, h0, X', hL, e1, e2, ⟨hv, hRep, hk⟩, st⟩ := hr T hT X
  cases hv
  obtain ⟨t2, a1, b1⟩ := kk T'.heap (locs ++ L) ⟨by rw [e1]; exact hRep, fun q hq => by rw [e1, hk q hq, h0]; exact hW.2.1 q hq, fun x hx => by
    rcases List.mem_append.mp hx with g | g
    · exact hW.2.2.1 x g
    · exact hL x g, hW.2.2.2⟩ T' rfl X'
  exact ⟨t2, st t2 a1, b1⟩
variable {y : MethodName} {bytes : ByteArray} {maxL n index b dc : Nat} {rt : Option FieldType} {As st0 : List Value} {rv : Option Value}
theorem g_good {w0 : Cond} (h0 : w0 ∈ wsL_law ∧ ((w0.onTables && w0.keeps) = true)) : GoodIn wsL_law (w0 :: wsL_law) := by
  intro w hw
  rcases List.mem_cons.mp hw with rfl | h
  · exact ⟨h0.1, Or.inl h0.2⟩
  · exact ⟨h, wsL_good w h⟩
abbrev g_dk (y : MethodName) (n : Nat) : Prop := y.cls ≠ "java/lang/invoke/MethodHandle" ∧ y.cls ≠ "java/lang/invoke/VarHandle" ∧ (parseMethodDescriptor y.desc).map (fun d => d.parameters.length) = some n
theorem g_dk_n (hd : g_dk y n) : ∀ sig, parseMethodDescriptor y.desc = some sig → n = sig.parameters.length := fun sig h => by
  have h2 := hd.2.2
  rw [h] at h2
  exact (Option.some.inj h2).symm
theorem g_cV (G : gx p s m meth c args cc nL ret own nm D dA) (hM : gM l D dA Z α y bytes maxL rt dc (.ref b :: As) σ rv σ') (hw : Cond.methodLink own index y ∈ wsL_law ∧ Cond.instanceMethod y ∈ wsL_law ∧ Cond.selects y.cls y y ∈ wsL_law ∧ Cond.initialized y.cls ∈ wsL_law ∧ Cond.code y bytes maxL rt ∈ wsL_law) (hd : g_dk y n) (hW : Wd D dA Z α H0 σ H locs)
    (hrec : ∃ cell : Cell, H[b]? = some cell ∧ cell.vm.isStatics = false ∧ s.vm.findClass y.cls = some cell.cls) (hR : dc + 1 ≤ R.frames ∧ 8 + (maxL + 11) + 44 * dc ≤ R.locals) (hf : cells ≤ R.cells ∧ slots ≤ R.slots) (hn : As.length = n) (hls : ls.size = nL) (hst : st0 = As.reverse ++ .ref b :: rest) (hcat : (rest.map fun v => v.category).sum ≤ 8) (hdg : decode cc pc = .ok (.invokevirtual index, 3))
    (kk : ∀ (H1 : Heap) (locs1 : List Loc), Wd D dA Z α H0 σ' H1 locs1 → W p l e R s m args below meth c H1 locs1 cells slots Q (F0 m (pc + 3) ls (rv.toList ++ rest))) : W p l e R s m args below meth c H locs cells slots Q (F0 m pc ls st0) := by
  obtain ⟨hx, hb, hr, hlk, hml, hown, hnm, hts, hK, hNw⟩ := G
  obtain ⟨w1, w2, w3, w4, w5⟩ := hw
  subst hst
  exact g_call (va_runV (As := As) (rest := rest) (C := y.cls) (n := n) ⟨hx, hb, hml, hown, hts⟩ hM ⟨⟨rfl, rfl, hR.1, hR.2, pay_in hts (g_good ⟨w5, rfl⟩), List.mem_cons_self, hts _ w5, hts _ w4, ⟨hd.1, hd.2.1⟩, g_dk_n hd, hts _ w1⟩, hts _ w2, hts _ w3⟩ ⟨sm_blind, hrec, fun U hU hWm => ⟨rfl, by rw [hU]; exact hW.1, va_K.moved hWm.alike hK, nW.warm hWm hNw⟩⟩ rfl hn hls rfl (lv_room hcat) hdg hf) hW kk
theorem g_cS (G : gx p s m meth c args cc nL ret own nm D dA) (hM : gM l D dA Z α y bytes maxL rt dc As σ rv σ') (hw : Cond.methodLink own index y ∈ wsL_law ∧ Cond.static y ∈ wsL_law ∧ Cond.initialized y.cls ∈ wsL_law ∧ Cond.code y bytes maxL rt ∈ wsL_law) (hd : g_dk y n) (hW : Wd D dA Z α H0 σ H locs)
    (hR : dc + 1 ≤ R.frames ∧ 8 + (maxL + 11) + 44 * dc ≤ R.locals) (hf : cells ≤ R.cells ∧ slots ≤ R.slots) (hn : As.length = n) (hls : ls.size = nL) (hst : st0 = As.reverse ++ rest) (hcat : (rest.map fun v => v.category).sum ≤ 8) (hdg : decode cc pc = .ok (.invokestatic index, 3))
    (kk : ∀ (H1 : Heap) (locs1 : List Loc), Wd D dA Z α H0 σ' H1 locs1 → W p l e R s m args below meth c H1 locs1 cells slots Q (F0 m (pc + 3) ls (rv.toList ++ rest))) : W p l e R s m args below meth c H locs cells slots Q (F0 m pc ls st0) := by
  obtain ⟨hx, hb, hr, hlk, hml, hown, hnm, hts, hK, hNw⟩ := G
  obtain ⟨w1, w2, w4, w5⟩ := hw
  subst hst
  exact g_call (va_runS (As := As) (rest := rest) (n := n) ⟨hx, hb, hml, hown, hts⟩ hM ⟨⟨rfl, rfl, hR.1, hR.2, pay_in hts (g_good ⟨w5, rfl⟩), List.mem_cons_self, hts _ w5, hts _ w4, ⟨hd.1, hd.2.1⟩, g_dk_n hd, hts _ w1⟩, hts _ w2⟩ ⟨sm_blind, fun U hU hWm => ⟨rfl, by rw [hU]; exact hW.1, va_K.moved hWm.alike hK, nW.warm hWm hNw⟩⟩ rfl hn hls rfl (lv_room hcat) hdg hf) hW kk
theorem g_cN {host : String} (G : gx p s m meth c args cc nL ret own nm D dA) (hM : gM l D dA Z α y bytes maxL rt dc As σ rv σ') (hw : va_Nw (.methodLinkNest own index y host) s ∧ Cond.static y ∈ wsL_law ∧ Cond.initialized y.cls ∈ wsL_law ∧ Cond.code y bytes maxL rt ∈ wsL_law) (hd : g_dk y n) (hW : Wd D dA Z α H0 σ H locs)
    (hR : dc + 1 ≤ R.frames ∧ 8 + (maxL + 11) + 44 * dc ≤ R.locals) (hf : cells ≤ R.cells ∧ slots ≤ R.slots) (hn : As.length = n) (hls : ls.size = nL) (hst : st0 = As.reverse ++ rest) (hcat : (rest.map fun v => v.category).sum ≤ 8) (hdg : decode cc pc = .ok (.invokestatic index, 3))
    (kk : ∀ (H1 : Heap) (locs1 : List Loc), Wd D dA Z α H0 σ' H1 locs1 → W p l e R s m args below meth c H1 locs1 cells slots Q (F0 m (pc + 3) ls (rv.toList ++ rest))) : W p l e R s m args below meth c H locs cells slots Q (F0 m pc ls st0) := by
  obtain ⟨hx, hb, hr, hlk, hml, hown, hnm, hts, hK, hNw⟩ := G
  obtain ⟨w1, w2, w4, w5⟩ := hw
  subst hst
  exact g_call (va_runSN (As := As) (rest := rest) (n := n) ⟨hx, hb, hml, hown, hts⟩ hM ⟨va_cnB n hts (g_good ⟨w5, rfl⟩) rfl rfl rfl w1 (hts _ w4) hd hR, hts _ w2, trivial⟩ ⟨sm_blind, fun U hU hWm => ⟨rfl, by rw [hU]; exact hW.1, va_K.moved hWm.alike hK, nW.warm hWm hNw⟩⟩ rfl hn hls rfl (lv_room hcat) hdg hf) hW kk
theorem g_max (G : gx p s m meth c args cc nL ret own nm D dA) (hls : ls.size = nL) (hm : Cond.methodLink own index Lib.Math.max.name ∈ wsL_law) (h1 : 1 ≤ R.frames) (h2 : (rest.map fun v => v.category).sum + 13 ≤ R.locals) (hc : cells ≤ R.cells) (hs : slots ≤ R.slots) {x y : Int32} (hdg : decode cc pc = .ok (.invokestatic index, 3))
    (kk : W p l e R s m args below meth c H locs cells slots Q (F0 m (pc + 3) ls (.int (if x < y then y else x) :: rest))) : W p l e R s m args below meth c H locs cells slots Q (F0 m pc ls (.int y :: .int x :: rest)) := by
  obtain ⟨hx, hb, hr, hlk, hml, hown, hnm, hts, hK, hNw⟩ := G
  exact va_mmax hx hb (hml.trans hls.symm) hown (hts _ hm) (hts _ mw_max.1) (hts _ mw_ini) (hts _ mw_max.2) h1 h2 hc hs hdg kk
theorem g_min (G : gx p s m meth c args cc nL ret own nm D dA) (hls : ls.size = nL) (hm : Cond.methodLink own index Lib.Math.min.name ∈ wsL_law) (h1 : 1 ≤ R.frames) (h2 : (rest.map fun v => v.category).sum + 13 ≤ R.locals) (hc : cells ≤ R.cells) (hs : slots ≤ R.slots) {x y : Int32} (hdg : decode cc pc = .ok (.invokestatic index, 3))
    (kk : W p l e R s m args below meth c H locs cells slots Q (F0 m (pc + 3) ls (.int (if y < x then y else x) :: rest))) : W p l e R s m args below meth c H locs cells slots Q (F0 m pc ls (.int y :: .int x :: rest)) := by
  obtain ⟨hx, hb, hr, hlk, hml, hown, hnm, hts, hK, hNw⟩ := G
  exact va_mmin hx hb (hml.trans hls.symm) hown (hts _ hm) (hts _ mw_min.1) (hts _ mw_ini) (hts _ mw_min.2) h1 h2 hc hs hdg kk
end SMC
/-- a method's contract out of its walk -/
theorem g_met {l : Launch} {D : va_G} {dA : Nat → ClassId} {Z d : Nat} {α : Nat → Nat → Nat} {y : MethodName} {cc : ByteArray} {maxL : Nat} {ret : Option FieldType} {av : List Value} {σ σz : sm_M} {rv : Option Value} (hI : Inj Z α) (hy : plainName y.cls = true) (hle : (lg_sl av).length ≤ maxL)
    (body : ∀ (p : Program) (e : Env) (s : State) (m : MethodId) (below : List Frame) (meth : Method) (c : Code) (ls : Array Slot), gx p s m meth c av.toArray cc maxL ret y.cls y.name D dA → Wd D dA Z α s.heap σ s.heap [] → lv_has ls maxL (lv_args 0 av) → gW d p l e s m av.toArray below meth c D dA Z α rv σz s.heap [] (F0 m 0 ls [])) :
    gM l D dA Z α y cc maxL ret d av σ rv σz := by
  refine Met.ofW (cc := cc) (maxL := maxL) (ret := ret) hy rfl ?_
  intro p e s m args below meth c s₁ B hml hv
  obtain ⟨rfl, hR, hK, hNw⟩ := hv
  have hts := atoms_spec (ws := Cond.code y cc maxL ret :: wsL_law) B.pre
  have hl := lv_entry av (n := maxL) hle
  rw [lg_entry_eq]
  exact body p e s m below meth c _ ⟨B.exec, B.bytes, B.returns, B.notSynchronized, hml, findClass_of_methodNamed B.named, (name_of_methodNamed B.named B.method).1, fun w hw => hts w (List.mem_cons_of_mem _ hw), hK, hNw⟩ ⟨hR, fun _ _ => rfl, (fun x hx => by cases hx), hI⟩ hl
end
section
section LNK
variable {p : Program} {l : Launch} {e : Env} {R : Room} {s : State} {m : MethodId} {args : Array Value} {below : List Frame} {meth : Method} {c : Code} {H : Heap} {locs : List Loc} {cells slots : Nat} {Q : State → Prop}
variable {cc : ByteArray} {pc nL Z : Nat} {ls : Array Slot} {rest : List Value} {D : va_G} {dA : Nat → ClassId} {α : Nat → Nat → Nat} {H0 : Heap} {σ σ' : sm_M} {ret : Option FieldType} {own nm : String}
theorem gg_X5_10 (G : gx p s m meth c args cc nL ret RX5 nm D dA) (hW : Wd D dA 0 α H0 σ H locs) (hN : 0 < fN 0) (hdg : decode cc pc = .ok (.getfield 10, 3)) (kk : W p l e R s m args below meth c H locs cells slots Q (F0 m (pc + 3) ls (.ref (α 1 0) :: rest))) : W p l e R s m args below meth c H locs cells slots Q (F0 m pc ls (.ref (α 0 0) :: rest)) := g_get (C := RX5) (T := TX5) (N := 13) G inlX5 rfl 0 (by decide) wm_1_15 rfl rfl rfl rfl hW hN rfl hdg kk
theorem gg_X5_19 (G : gx p s m meth c args cc nL ret RX5 nm D dA) (hW : Wd D dA 0 α H0 σ H locs) (hN : 0 < fN 0) (hdg : decode cc pc = .ok (.getfield 19, 3)) (kk : W p l e R s m args below meth c H locs cells slots Q (F0 m (pc + 3) ls (.ref (α 2 0) :: rest))) : W p l e R s m args below meth c H locs cells slots Q (F0 m pc ls (.ref (α 0 0) :: rest)) := g_get (C := RX5) (T := TX5) (N := 13) G inlX5 rfl 1 (by decide) wm_1_19 rfl rfl rfl rfl hW hN rfl hdg kk
theorem gg_X5_26 (G : gx p s m meth c args cc nL ret RX5 nm D dA) (hW : Wd D dA 0 α H0 σ H locs) (hN : 0 < fN 0) (hdg : decode cc pc = .ok (.getfield 26, 3)) (kk : W p l e R s m args below meth c H locs cells slots Q (F0 m (pc + 3) ls (.ref (α 3 0) :: rest))) : W p l e R s m args below meth c H locs cells slots Q (F0 m pc ls (.ref (α 0 0) :: rest)) := g_get (C := RX5) (T := TX5) (N := 13) G inlX5 rfl 2 (by decide) wm_1_23 rfl rfl rfl rfl hW hN rfl hdg kk
theorem gg_X5_30 (G : gx p s m meth c args cc nL ret RX5 nm D dA) (hW : Wd D dA 0 α H0 σ H locs) (hN : 0 < fN 0) (hdg : decode cc pc = .ok (.getfield 30, 3)) (kk : W p l e R s m args below meth c H locs cells slots Q (F0 m (pc + 3) ls (.ref (α 6 0) :: rest))) : W p l e R s m args below meth c H locs cells slots Q (F0 m pc ls (.ref (α 0 0) :: rest)) := g_get (C := RX5) (T := TX5) (N := 13) G inlX5 rfl 3 (by decide) wm_2_1 rfl rfl rfl rfl hW hN rfl hdg kk
theorem gg_X5_45 (G : gx p s m meth c args cc nL ret RX5 nm D dA) (hW : Wd D dA 0 α H0 σ H locs) (hN : 0 < fN 0) (hdg : decode cc pc = .ok (.getfield 45, 3)) (kk : W p l e R s m args below meth c H locs cells slots Q (F0 m (pc + 3) ls (.int (σ.1 0 0 11) :: rest))) : W p l e R s m args below meth c H locs cells slots Q (F0 m pc ls (.ref (α 0 0) :: rest)) := g_get (C := RX5) (T := TX5) (N := 13) G inlX5 rfl 11 (by decide) wm_4_1 rfl rfl rfl rfl hW hN rfl hdg kk
theorem gg_X5_49 (G : gx p s m meth c args cc nL ret RX5 nm D dA) (hW : Wd D dA 0 α H0 σ H locs) (hN : 0 < fN 1) (hdg : decode cc pc = .ok (.getfield 49, 3)) (kk : W p l e R s m args below meth c H locs cells slots Q (F0 m (pc + 3) ls (.int (σ.1 1 0 2) :: rest))) : W p l e R s m args below meth c H locs cells slots Q (F0 m pc ls (.ref (α 1 0) :: rest)) := g_get (C := RX2) (T := TX2) (N := 4) G inlX2 rfl 2 (by decide) wm_3_15 rfl rfl rfl rfl hW hN rfl hdg kk
theorem gg_X5_60 (G : gx p s m meth c args cc nL ret RX5 nm D dA) (hW : Wd D dA 0 α H0 σ H locs) (hN : 0 < fN 1) (hdg : decode cc pc = .ok (.getfield 60, 3)) (kk : W p l e R s m args below meth c H locs cells slots Q (F0 m (pc + 3) ls (.ref (α 7 0) :: rest))) : W p l e R s m args below meth c H locs cells slots Q (F0 m pc ls (.ref (α 1 0) :: rest)) := g_get (C := RX2) (T := TX2) (N := 4) G inlX2 rfl 0 (by decide) wm_8_19 rfl rfl rfl rfl hW hN rfl hdg kk
theorem gg_X5_64 (G : gx p s m meth c args cc nL ret RX5 nm D dA) (hW : Wd D dA 0 α H0 σ H locs) {i : Nat} (hN : i < fN 4) (hdg : decode cc pc = .ok (.getfield 64, 3)) (kk : W p l e R s m args below meth c H locs cells slots Q (F0 m (pc + 3) ls (.int (σ.1 4 i 2) :: rest))) : W p l e R s m args below meth c H locs cells slots Q (F0 m pc ls (.ref (α 4 i) :: rest)) := g_get (C := RX4) (T := TX4) (N := 17) G inlX4 rfl 2 (by decide) wm_8_20 rfl rfl rfl rfl hW hN rfl hdg kk
theorem gg_X5_69 (G : gx p s m meth c args cc nL ret RX5 nm D dA) (hW : Wd D dA 0 α H0 σ H locs) (hN : 0 < fN 1) (hdg : decode cc pc = .ok (.getfield 69, 3)) (kk : W p l e R s m args below meth c H locs cells slots Q (F0 m (pc + 3) ls (.int (σ.1 1 0 3) :: rest))) : W p l e R s m args below meth c H locs cells slots Q (F0 m pc ls (.ref (α 1 0) :: rest)) := g_get (C := RX2) (T := TX2) (N := 4) G inlX2 rfl 3 (by decide) wm_3_16 rfl rfl rfl rfl hW hN rfl hdg kk
theorem gg_X5_76 (G : gx p s m meth c args cc nL ret RX5 nm D dA) (hW : Wd D dA 0 α H0 σ H locs) {i : Nat} (hN : i < fN 4) (hdg : decode cc pc = .ok (.getfield 76, 3)) (kk : W p l e R s m args below meth c H locs cells slots Q (F0 m (pc + 3) ls (.int (σ.1 4 i 6) :: rest))) : W p l e R s m args below meth c H locs cells slots Q (F0 m pc ls (.ref (α 4 i) :: rest)) := g_get (C := RX4) (T := TX4) (N := 17) G inlX4 rfl 6 (by decide) wm_10_14 rfl rfl rfl rfl hW hN rfl hdg kk
theorem gg_X5_79 (G : gx p s m meth c args cc nL ret RX5 nm D dA) (hW : Wd D dA 0 α H0 σ H locs) (hN : 0 < fN 0) (hdg : decode cc pc = .ok (.getfield 79, 3)) (kk : W p l e R s m args below meth c H locs cells slots Q (F0 m (pc + 3) ls (.int (σ.1 0 0 4) :: rest))) : W p l e R s m args below meth c H locs cells slots Q (F0 m pc ls (.ref (α 0 0) :: rest)) := g_get (C := RX5) (T := TX5) (N := 13) G inlX5 rfl 4 (by decide) wm_3_18 rfl rfl rfl rfl hW hN rfl hdg kk
theorem gg_X5_82 (G : gx p s m meth c args cc nL ret RX5 nm D dA) (hW : Wd D dA 0 α H0 σ H locs) (hN : 0 < fN 0) (hdg : decode cc pc = .ok (.getfield 82, 3)) (kk : W p l e R s m args below meth c H locs cells slots Q (F0 m (pc + 3) ls (.int (σ.1 0 0 5) :: rest))) : W p l e R s m args below meth c H locs cells slots Q (F0 m pc ls (.ref (α 0 0) :: rest)) := g_get (C := RX5) (T := TX5) (N := 13) G inlX5 rfl 5 (by decide) wm_3_19 rfl rfl rfl rfl hW hN rfl hdg kk
theorem gg_X5_85 (G : gx p s m meth c args cc nL ret RX5 nm D dA) (hW : Wd D dA 0 α H0 σ H locs) (hN : 0 < fN 0) (hdg : decode cc pc = .ok (.getfield 85, 3)) (kk : W p l e R s m args below meth c H locs cells slots Q (F0 m (pc + 3) ls (.int (σ.1 0 0 12) :: rest))) : W p l e R s m args below meth c H locs cells slots Q (F0 m pc ls (.ref (α 0 0) :: rest)) := g_get (C := RX5) (T := TX5) (N := 13) G inlX5 rfl 12 (by decide) wm_4_2 rfl rfl rfl rfl hW hN rfl hdg kk
theorem gg_X5_88 (G : gx p s m meth c args cc nL ret RX5 nm D dA) (hW : Wd D dA 0 α H0 σ H locs) (hN : 0 < fN 0) (hdg : decode cc pc = .ok (.getfield 88, 3)) (kk : W p l e R s m args below meth c H locs cells slots Q (F0 m (pc + 3) ls (.int (σ.1 0 0 6) :: rest))) : W p l e R s m args below meth c H locs cells slots Q (F0 m pc ls (.ref (α 0 0) :: rest)) := g_get (C := RX5) (T := TX5) (N := 13) G inlX5 rfl 6 (by decide) wm_3_20 rfl rfl rfl rfl hW hN rfl hdg kk
theorem gg_X5_99 (G : gx p s m meth c args cc nL ret RX5 nm D dA) (hW : Wd D dA 0 α H0 σ H locs) (hN : 0 < fN 2) (hdg : decode cc pc = .ok (.getfield 99, 3)) (kk : W p l e R s m args below meth c H locs cells slots Q (F0 m (pc + 3) ls (.int (σ.1 2 0 3) :: rest))) : W p l e R s m args below meth c H locs cells slots Q (F0 m pc ls (.ref (α 2 0) :: rest)) := g_get (C := RX3) (T := TX3) (N := 5) G inlX3 rfl 3 (by decide) wm_11_7 rfl rfl rfl rfl hW hN rfl hdg kk
theorem gg_X5_110 (G : gx p s m meth c args cc nL ret RX5 nm D dA) (hW : Wd D dA 0 α H0 σ H locs) (hN : 0 < fN 0) (hdg : decode cc pc = .ok (.getfield 110, 3)) (kk : W p l e R s m args below meth c H locs cells slots Q (F0 m (pc + 3) ls (.int (σ.1 0 0 9) :: rest))) : W p l e R s m args below meth c H locs cells slots Q (F0 m pc ls (.ref (α 0 0) :: rest)) := g_get (C := RX5) (T := TX5) (N := 13) G inlX5 rfl 9 (by decide) wm_3_23 rfl rfl rfl rfl hW hN rfl hdg kk
theorem gg_X5_117 (G : gx p s m meth c args cc nL ret RX5 nm D dA) (hW : Wd D dA 0 α H0 σ H locs) (hN : 0 < fN 2) (hdg : decode cc pc = .ok (.getfield 117, 3)) (kk : W p l e R s m args below meth c H locs cells slots Q (F0 m (pc + 3) ls (.int (σ.1 2 0 2) :: rest))) : W p l e R s m args below meth c H locs cells slots Q (F0 m pc ls (.ref (α 2 0) :: rest)) := g_get (C := RX3) (T := TX3) (N := 5) G inlX3 rfl 2 (by decide) wm_11_8 rfl rfl rfl rfl hW hN rfl hdg kk
theorem gg_X5_142 (G : gx p s m meth c args cc nL ret RX5 nm D dA) (hW : Wd D dA 0 α H0 σ H locs) (hN : 0 < fN 1) (hdg : decode cc pc = .ok (.getfield 142, 3)) (kk : W p l e R s m args below meth c H locs cells slots Q (F0 m (pc + 3) ls (.ref (α 8 0) :: rest))) : W p l e R s m args below meth c H locs cells slots Q (F0 m pc ls (.ref (α 1 0) :: rest)) := g_get (C := RX2) (T := TX2) (N := 4) G inlX2 rfl 1 (by decide) wm_18_8 rfl rfl rfl rfl hW hN rfl hdg kk
theorem gg_X5_146 (G : gx p s m meth c args cc nL ret RX5 nm D dA) (hW : Wd D dA 0 α H0 σ H locs) {i : Nat} (hN : i < fN 5) (hdg : decode cc pc = .ok (.getfield 146, 3)) (kk : W p l e R s m args below meth c H locs cells slots Q (F0 m (pc + 3) ls (.int (σ.1 5 i 3) :: rest))) : W p l e R s m args below meth c H locs cells slots Q (F0 m pc ls (.ref (α 5 i) :: rest)) := g_get (C := RX1) (T := TX1) (N := 12) G inlX1 rfl 3 (by decide) wm_25_6 rfl rfl rfl rfl hW hN rfl hdg kk
theorem gg_X5_154 (G : gx p s m meth c args cc nL ret RX5 nm D dA) (hW : Wd D dA 0 α H0 σ H locs) {i : Nat} (hN : i < fN 5) (hdg : decode cc pc = .ok (.getfield 154, 3)) (kk : W p l e R s m args below meth c H locs cells slots Q (F0 m (pc + 3) ls (.int (σ.1 5 i 8) :: rest))) : W p l e R s m args below meth c H locs cells slots Q (F0 m pc ls (.ref (α 5 i) :: rest)) := g_get (C := RX1) (T := TX1) (N := 12) G inlX1 rfl 8 (by decide) wm_25_7 rfl rfl rfl rfl hW hN rfl hdg kk
theorem gg_X5_157 (G : gx p s m meth c args cc nL ret RX5 nm D dA) (hW : Wd D dA 0 α H0 σ H locs) {i : Nat} (hN : i < fN 5) (hdg : decode cc pc = .ok (.getfield 157, 3)) (kk : W p l e R s m args below meth c H locs cells slots Q (F0 m (pc + 3) ls (.int (σ.1 5 i 6) :: rest))) : W p l e R s m args below meth c H locs cells slots Q (F0 m pc ls (.ref (α 5 i) :: rest)) := g_get (C := RX1) (T := TX1) (N := 12) G inlX1 rfl 6 (by decide) wm_25_8 rfl rfl rfl rfl hW hN rfl hdg kk
theorem gg_X5_160 (G : gx p s m meth c args cc nL ret RX5 nm D dA) (hW : Wd D dA 0 α H0 σ H locs) {i : Nat} (hN : i < fN 5) (hdg : decode cc pc = .ok (.getfield 160, 3)) (kk : W p l e R s m args below meth c H locs cells slots Q (F0 m (pc + 3) ls (.int (σ.1 5 i 4) :: rest))) : W p l e R s m args below meth c H locs cells slots Q (F0 m pc ls (.ref (α 5 i) :: rest)) := g_get (C := RX1) (T := TX1) (N := 12) G inlX1 rfl 4 (by decide) wm_25_9 rfl rfl rfl rfl hW hN rfl hdg kk
theorem gg_X5_163 (G : gx p s m meth c args cc nL ret RX5 nm D dA) (hW : Wd D dA 0 α H0 σ H locs) {i : Nat} (hN : i < fN 5) (hdg : decode cc pc = .ok (.getfield 163, 3)) (kk : W p l e R s m args below meth c H locs cells slots Q (F0 m (pc + 3) ls (.int (σ.1 5 i 1) :: rest))) : W p l e R s m args below meth c H locs cells slots Q (F0 m pc ls (.ref (α 5 i) :: rest)) := g_get (C := RX1) (T := TX1) (N := 12) G inlX1 rfl 1 (by decide) wm_25_10 rfl rfl rfl rfl hW hN rfl hdg kk
theorem gg_X5_178 (G : gx p s m meth c args cc nL ret RX5 nm D dA) (hW : Wd D dA 0 α H0 σ H locs) (hN : 0 < fN 0) (hdg : decode cc pc = .ok (.getfield 178, 3)) (kk : W p l e R s m args below meth c H locs cells slots Q (F0 m (pc + 3) ls (.int (σ.1 0 0 8) :: rest))) : W p l e R s m args below meth c H locs cells slots Q (F0 m pc ls (.ref (α 0 0) :: rest)) := g_get (C := RX5) (T := TX5) (N := 13) G inlX5 rfl 8 (by decide) wm_3_22 rfl rfl rfl rfl hW hN rfl hdg kk
theorem gg_X5_184 (G : gx p s m meth c args cc nL ret RX5 nm D dA) (hW : Wd D dA 0 α H0 σ H locs) {i : Nat} (hN : i < fN 4) (hdg : decode cc pc = .ok (.getfield 184, 3)) (kk : W p l e R s m args below meth c H locs cells slots Q (F0 m (pc + 3) ls (.int (σ.1 4 i 4) :: rest))) : W p l e R s m args below meth c H locs cells slots Q (F0 m pc ls (.ref (α 4 i) :: rest)) := g_get (C := RX4) (T := TX4) (N := 17) G inlX4 rfl 4 (by decide) wm_24_1 rfl rfl rfl rfl hW hN rfl hdg kk
theorem gg_X5_187 (G : gx p s m meth c args cc nL ret RX5 nm D dA) (hW : Wd D dA 0 α H0 σ H locs) {i : Nat} (hN : i < fN 4) (hdg : decode cc pc = .ok (.getfield 187, 3)) (kk : W p l e R s m args below meth c H locs cells slots Q (F0 m (pc + 3) ls (.int (σ.1 4 i 11) :: rest))) : W p l e R s m args below meth c H locs cells slots Q (F0 m pc ls (.ref (α 4 i) :: rest)) := g_get (C := RX4) (T := TX4) (N := 17) G inlX4 rfl 11 (by decide) wm_18_9 rfl rfl rfl rfl hW hN rfl hdg kk
theorem gg_X5_190 (G : gx p s m meth c args cc nL ret RX5 nm D dA) (hW : Wd D dA 0 α H0 σ H locs) {i : Nat} (hN : i < fN 4) (hdg : decode cc pc = .ok (.getfield 190, 3)) (kk : W p l e R s m args below meth c H locs cells slots Q (F0 m (pc + 3) ls (.int (σ.1 4 i 12) :: rest))) : W p l e R s m args below meth c H locs cells slots Q (F0 m pc ls (.ref (α 4 i) :: rest)) := g_get (C := RX4) (T := TX4) (N := 17) G inlX4 rfl 12 (by decide) wm_19_0 rfl rfl rfl rfl hW hN rfl hdg kk
theorem gg_X5_193 (G : gx p s m meth c args cc nL ret RX5 nm D dA) (hW : Wd D dA 0 α H0 σ H locs) {i : Nat} (hN : i < fN 4) (hdg : decode cc pc = .ok (.getfield 193, 3)) (kk : W p l e R s m args below meth c H locs cells slots Q (F0 m (pc + 3) ls (.int (σ.1 4 i 7) :: rest))) : W p l e R s m args below meth c H locs cells slots Q (F0 m pc ls (.ref (α 4 i) :: rest)) := g_get (C := RX4) (T := TX4) (N := 17) G inlX4 rfl 7 (by decide) wm_27_17 rfl rfl rfl rfl hW hN rfl hdg kk
theorem gg_X5_196 (G : gx p s m meth c args cc nL ret RX5 nm D dA) (hW : Wd D dA 0 α H0 σ H locs) {i : Nat} (hN : i < fN 4) (hdg : decode cc pc = .ok (.getfield 196, 3)) (kk : W p l e R s m args below meth c H locs cells slots Q (F0 m (pc + 3) ls (.int (σ.1 4 i 8) :: rest))) : W p l e R s m args below meth c H locs cells slots Q (F0 m pc ls (.ref (α 4 i) :: rest)) := g_get (C := RX4) (T := TX4) (N := 17) G inlX4 rfl 8 (by decide) wm_15_14 rfl rfl rfl rfl hW hN rfl hdg kk
theorem gg_X5_209 (G : gx p s m meth c args cc nL ret RX5 nm D dA) (hW : Wd D dA 0 α H0 σ H locs) {i : Nat} (hN : i < fN 4) (hdg : decode cc pc = .ok (.getfield 209, 3)) (kk : W p l e R s m args below meth c H locs cells slots Q (F0 m (pc + 3) ls (.int (σ.1 4 i 13) :: rest))) : W p l e R s m args below meth c H locs cells slots Q (F0 m pc ls (.ref (α 4 i) :: rest)) := g_get (C := RX4) (T := TX4) (N := 17) G inlX4 rfl 13 (by decide) wm_27_18 rfl rfl rfl rfl hW hN rfl hdg kk
theorem gg_X5_212 (G : gx p s m meth c args cc nL ret RX5 nm D dA) (hW : Wd D dA 0 α H0 σ H locs) {i : Nat} (hN : i < fN 4) (hdg : decode cc pc = .ok (.getfield 212, 3)) (kk : W p l e R s m args below meth c H locs cells slots Q (F0 m (pc + 3) ls (.int (σ.1 4 i 10) :: rest))) : W p l e R s m args below meth c H locs cells slots Q (F0 m pc ls (.ref (α 4 i) :: rest)) := g_get (C := RX4) (T := TX4) (N := 17) G inlX4 rfl 10 (by decide) wm_27_19 rfl rfl rfl rfl hW hN rfl hdg kk
theorem gg_X5_215 (G : gx p s m meth c args cc nL ret RX5 nm D dA) (hW : Wd D dA 0 α H0 σ H locs) {i : Nat} (hN : i < fN 5) (hdg : decode cc pc = .ok (.getfield 215, 3)) (kk : W p l e R s m args below meth c H locs cells slots Q (F0 m (pc + 3) ls (.int (σ.1 5 i 2) :: rest))) : W p l e R s m args below meth c H locs cells slots Q (F0 m pc ls (.ref (α 5 i) :: rest)) := g_get (C := RX1) (T := TX1) (N := 12) G inlX1 rfl 2 (by decide) wm_28_8 rfl rfl rfl rfl hW hN rfl hdg kk
theorem gg_X5_218 (G : gx p s m meth c args cc nL ret RX5 nm D dA) (hW : Wd D dA 0 α H0 σ H locs) {i : Nat} (hN : i < fN 5) (hdg : decode cc pc = .ok (.getfield 218, 3)) (kk : W p l e R s m args below meth c H locs cells slots Q (F0 m (pc + 3) ls (.int (σ.1 5 i 5) :: rest))) : W p l e R s m args below meth c H locs cells slots Q (F0 m pc ls (.ref (α 5 i) :: rest)) := g_get (C := RX1) (T := TX1) (N := 12) G inlX1 rfl 5 (by decide) wm_28_9 rfl rfl rfl rfl hW hN rfl hdg kk
theorem gg_X5_224 (G : gx p s m meth c args cc nL ret RX5 nm D dA) (hW : Wd D dA 0 α H0 σ H locs) {i : Nat} (hN : i < fN 5) (hdg : decode cc pc = .ok (.getfield 224, 3)) (kk : W p l e R s m args below meth c H locs cells slots Q (F0 m (pc + 3) ls (.int (σ.1 5 i 7) :: rest))) : W p l e R s m args below meth c H locs cells slots Q (F0 m pc ls (.ref (α 5 i) :: rest)) := g_get (C := RX1) (T := TX1) (N := 12) G inlX1 rfl 7 (by decide) wm_28_10 rfl rfl rfl rfl hW hN rfl hdg kk
theorem gg_X5_227 (G : gx p s m meth c args cc nL ret RX5 nm D dA) (hW : Wd D dA 0 α H0 σ H locs) {i : Nat} (hN : i < fN 5) (hdg : decode cc pc = .ok (.getfield 227, 3)) (kk : W p l e R s m args below meth c H locs cells slots Q (F0 m (pc + 3) ls (.ref (α 16 i) :: rest))) : W p l e R s m args below meth c H locs cells slots Q (F0 m pc ls (.ref (α 5 i) :: rest)) := g_get (C := RX1) (T := TX1) (N := 12) G inlX1 rfl 0 (by decide) wm_28_20 rfl rfl rfl rfl hW hN rfl hdg kk
theorem gg_X5_231 (G : gx p s m meth c args cc nL ret RX5 nm D dA) (hW : Wd D dA 0 α H0 σ H locs) {i : Nat} (hN : i < fN 4) (hdg : decode cc pc = .ok (.getfield 231, 3)) (kk : W p l e R s m args below meth c H locs cells slots Q (F0 m (pc + 3) ls (.ref (α 14 i) :: rest))) : W p l e R s m args below meth c H locs cells slots Q (F0 m pc ls (.ref (α 4 i) :: rest)) := g_get (C := RX4) (T := TX4) (N := 17) G inlX4 rfl 0 (by decide) wm_29_5 rfl rfl rfl rfl hW hN rfl hdg kk
theorem gg_X5_234 (G : gx p s m meth c args cc nL ret RX5 nm D dA) (hW : Wd D dA 0 α H0 σ H locs) {i : Nat} (hN : i < fN 4) (hdg : decode cc pc = .ok (.getfield 234, 3)) (kk : W p l e R s m args below meth c H locs cells slots Q (F0 m (pc + 3) ls (.ref (α 15 i) :: rest))) : W p l e R s m args below meth c H locs cells slots Q (F0 m pc ls (.ref (α 4 i) :: rest)) := g_get (C := RX4) (T := TX4) (N := 17) G inlX4 rfl 1 (by decide) wm_29_14 rfl rfl rfl rfl hW hN rfl hdg kk
theorem gg_X5_237 (G : gx p s m meth c args cc nL ret RX5 nm D dA) (hW : Wd D dA 0 α H0 σ H locs) (hN : 0 < fN 3) (hdg : decode cc pc = .ok (.getfield 237, 3)) (kk : W p l e R s m args below meth c H locs cells slots Q (F0 m (pc + 3) ls (.int (σ.1 3 0 3) :: rest))) : W p l e R s m args below meth c H locs cells slots Q (F0 m pc ls (.ref (α 3 0) :: rest)) := g_get (C := RX0) (T := TX0) (N := 4) G inlX0 rfl 3 (by decide) wm_3_17 rfl rfl rfl rfl hW hN rfl hdg kk
theorem gg_X5_238 (G : gx p s m meth c args cc nL ret RX5 nm D dA) (hW : Wd D dA 0 α H0 σ H locs) (hN : 0 < fN 3) (hdg : decode cc pc = .ok (.getfield 238, 3)) (kk : W p l e R s m args below meth c H locs cells slots Q (F0 m (pc + 3) ls (.ref (α 11 0) :: rest))) : W p l e R s m args below meth c H locs cells slots Q (F0 m pc ls (.ref (α 3 0) :: rest)) := g_get (C := RX0) (T := TX0) (N := 4) G inlX0 rfl 0 (by decide) wm_29_23 rfl rfl rfl rfl hW hN rfl hdg kk
theorem gg_X5_240 (G : gx p s m meth c args cc nL ret RX5 nm D dA) (hW : Wd D dA 0 α H0 σ H locs) (hN : 0 < fN 3) (hdg : decode cc pc = .ok (.getfield 240, 3)) (kk : W p l e R s m args below meth c H locs cells slots Q (F0 m (pc + 3) ls (.ref (α 12 0) :: rest))) : W p l e R s m args below meth c H locs cells slots Q (F0 m pc ls (.ref (α 3 0) :: rest)) := g_get (C := RX0) (T := TX0) (N := 4) G inlX0 rfl 1 (by decide) wm_30_0 rfl rfl rfl rfl hW hN rfl hdg kk
theorem gg_X5_243 (G : gx p s m meth c args cc nL ret RX5 nm D dA) (hW : Wd D dA 0 α H0 σ H locs) (hN : 0 < fN 3) (hdg : decode cc pc = .ok (.getfield 243, 3)) (kk : W p l e R s m args below meth c H locs cells slots Q (F0 m (pc + 3) ls (.ref (α 13 0) :: rest))) : W p l e R s m args below meth c H locs cells slots Q (F0 m pc ls (.ref (α 3 0) :: rest)) := g_get (C := RX0) (T := TX0) (N := 4) G inlX0 rfl 2 (by decide) wm_30_1 rfl rfl rfl rfl hW hN rfl hdg kk
theorem gg_X5_251 (G : gx p s m meth c args cc nL ret RX5 nm D dA) (hW : Wd D dA 0 α H0 σ H locs) (hN : 0 < fN 0) (hdg : decode cc pc = .ok (.getfield 251, 3)) (kk : W p l e R s m args below meth c H locs cells slots Q (F0 m (pc + 3) ls (.int (σ.1 0 0 10) :: rest))) : W p l e R s m args below meth c H locs cells slots Q (F0 m pc ls (.ref (α 0 0) :: rest)) := g_get (C := RX5) (T := TX5) (N := 13) G inlX5 rfl 10 (by decide) wm_4_0 rfl rfl rfl rfl hW hN rfl hdg kk
theorem gg_X5_254 (G : gx p s m meth c args cc nL ret RX5 nm D dA) (hW : Wd D dA 0 α H0 σ H locs) (hN : 0 < fN 0) (hdg : decode cc pc = .ok (.getfield 254, 3)) (kk : W p l e R s m args below meth c H locs cells slots Q (F0 m (pc + 3) ls (.long (σ.2 0 0 7) :: rest))) : W p l e R s m args below meth c H locs cells slots Q (F0 m pc ls (.ref (α 0 0) :: rest)) := g_get (C := RX5) (T := TX5) (N := 13) G inlX5 rfl 7 (by decide) wm_3_21 rfl rfl rfl rfl hW hN rfl hdg kk
theorem gg_X5_258 (G : gx p s m meth c args cc nL ret RX5 nm D dA) (hW : Wd D dA 0 α H0 σ H locs) (hN : 0 < fN 2) (hdg : decode cc pc = .ok (.getfield 258, 3)) (kk : W p l e R s m args below meth c H locs cells slots Q (F0 m (pc + 3) ls (.ref (α 10 0) :: rest))) : W p l e R s m args below meth c H locs cells slots Q (F0 m pc ls (.ref (α 2 0) :: rest)) := g_get (C := RX3) (T := TX3) (N := 5) G inlX3 rfl 1 (by decide) wm_18_7 rfl rfl rfl rfl hW hN rfl hdg kk
theorem gg_X5_266 (G : gx p s m meth c args cc nL ret RX5 nm D dA) (hW : Wd D dA 0 α H0 σ H locs) (hN : 0 < fN 2) (hdg : decode cc pc = .ok (.getfield 266, 3)) (kk : W p l e R s m args below meth c H locs cells slots Q (F0 m (pc + 3) ls (.ref (α 9 0) :: rest))) : W p l e R s m args below meth c H locs cells slots Q (F0 m pc ls (.ref (α 2 0) :: rest)) := g_get (C := RX3) (T := TX3) (N := 5) G inlX3 rfl 0 (by decide) wm_18_10 rfl rfl rfl rfl hW hN rfl hdg kk
theorem gg_X5_285 (G : gx p s m meth c args cc nL ret RX5 nm D dA) (hW : Wd D dA 0 α H0 σ H locs) {i : Nat} (hN : i < fN 4) (hdg : decode cc pc = .ok (.getfield 285, 3)) (kk : W p l e R s m args below meth c H locs cells slots Q (F0 m (pc + 3) ls (.int (σ.1 4 i 3) :: rest))) : W p l e R s m args below meth c H locs cells slots Q (F0 m pc ls (.ref (α 4 i) :: rest)) := g_get (C := RX4) (T := TX4) (N := 17) G inlX4 rfl 3 (by decide) wm_19_4 rfl rfl rfl rfl hW hN rfl hdg kk
theorem gg_X0_9 (G : gx p s m meth c args cc nL ret RX0 nm D dA) (hW : Wd D dA 0 α H0 σ H locs) (hN : 0 < fN 3) (hdg : decode cc pc = .ok (.getfield 9, 3)) (kk : W p l e R s m args below meth c H locs cells slots Q (F0 m (pc + 3) ls (.ref (α 11 0) :: rest))) : W p l e R s m args below meth c H locs cells slots Q (F0 m pc ls (.ref (α 3 0) :: rest)) := g_get (C := RX0) (T := TX0) (N := 4) G inlX0 rfl 0 (by decide) wm_3_8 rfl rfl rfl rfl hW hN rfl hdg kk
theorem gg_X0_15 (G : gx p s m meth c args cc nL ret RX0 nm D dA) (hW : Wd D dA 0 α H0 σ H locs) (hN : 0 < fN 3) (hdg : decode cc pc = .ok (.getfield 15, 3)) (kk : W p l e R s m args below meth c H locs cells slots Q (F0 m (pc + 3) ls (.ref (α 12 0) :: rest))) : W p l e R s m args below meth c H locs cells slots Q (F0 m pc ls (.ref (α 3 0) :: rest)) := g_get (C := RX0) (T := TX0) (N := 4) G inlX0 rfl 1 (by decide) wm_3_9 rfl rfl rfl rfl hW hN rfl hdg kk
theorem gg_X0_18 (G : gx p s m meth c args cc nL ret RX0 nm D dA) (hW : Wd D dA 0 α H0 σ H locs) (hN : 0 < fN 3) (hdg : decode cc pc = .ok (.getfield 18, 3)) (kk : W p l e R s m args below meth c H locs cells slots Q (F0 m (pc + 3) ls (.ref (α 13 0) :: rest))) : W p l e R s m args below meth c H locs cells slots Q (F0 m pc ls (.ref (α 3 0) :: rest)) := g_get (C := RX0) (T := TX0) (N := 4) G inlX0 rfl 2 (by decide) wm_3_10 rfl rfl rfl rfl hW hN rfl hdg kk
theorem gg_X0_21 (G : gx p s m meth c args cc nL ret RX0 nm D dA) (hW : Wd D dA 0 α H0 σ H locs) (hN : 0 < fN 3) (hdg : decode cc pc = .ok (.getfield 21, 3)) (kk : W p l e R s m args below meth c H locs cells slots Q (F0 m (pc + 3) ls (.int (σ.1 3 0 3) :: rest))) : W p l e R s m args below meth c H locs cells slots Q (F0 m pc ls (.ref (α 3 0) :: rest)) := g_get (C := RX0) (T := TX0) (N := 4) G inlX0 rfl 3 (by decide) wm_15_21 rfl rfl rfl rfl hW hN rfl hdg kk
theorem gg_X1_9 (G : gx p s m meth c args cc nL ret RX1 nm D dA) (hW : Wd D dA 0 α H0 σ H locs) {i : Nat} (hN : i < fN 5) (hdg : decode cc pc = .ok (.getfield 9, 3)) (kk : W p l e R s m args below meth c H locs cells slots Q (F0 m (pc + 3) ls (.ref (α 16 i) :: rest))) : W p l e R s m args below meth c H locs cells slots Q (F0 m pc ls (.ref (α 5 i) :: rest)) := g_get (C := RX1) (T := TX1) (N := 12) G inlX1 rfl 0 (by decide) wm_2_23 rfl rfl rfl rfl hW hN rfl hdg kk
theorem gg_X1_15 (G : gx p s m meth c args cc nL ret RX1 nm D dA) (hW : Wd D dA 0 α H0 σ H locs) {i : Nat} (hN : i < fN 5) (hdg : decode cc pc = .ok (.getfield 15, 3)) (kk : W p l e R s m args below meth c H locs cells slots Q (F0 m (pc + 3) ls (.int (σ.1 5 i 1) :: rest))) : W p l e R s m args below meth c H locs cells slots Q (F0 m pc ls (.ref (α 5 i) :: rest)) := g_get (C := RX1) (T := TX1) (N := 12) G inlX1 rfl 1 (by decide) wm_9_11 rfl rfl rfl rfl hW hN rfl hdg kk
theorem gg_X1_22 (G : gx p s m meth c args cc nL ret RX1 nm D dA) (hW : Wd D dA 0 α H0 σ H locs) {i : Nat} (hN : i < fN 5) (hdg : decode cc pc = .ok (.getfield 22, 3)) (kk : W p l e R s m args below meth c H locs cells slots Q (F0 m (pc + 3) ls (.int (σ.1 5 i 3) :: rest))) : W p l e R s m args below meth c H locs cells slots Q (F0 m pc ls (.ref (α 5 i) :: rest)) := g_get (C := RX1) (T := TX1) (N := 12) G inlX1 rfl 3 (by decide) wm_9_13 rfl rfl rfl rfl hW hN rfl hdg kk
theorem gg_X1_26 (G : gx p s m meth c args cc nL ret RX1 nm D dA) (hW : Wd D dA 0 α H0 σ H locs) {i : Nat} (hN : i < fN 5) (hdg : decode cc pc = .ok (.getfield 26, 3)) (kk : W p l e R s m args below meth c H locs cells slots Q (F0 m (pc + 3) ls (.int (σ.1 5 i 4) :: rest))) : W p l e R s m args below meth c H locs cells slots Q (F0 m pc ls (.ref (α 5 i) :: rest)) := g_get (C := RX1) (T := TX1) (N := 12) G inlX1 rfl 4 (by decide) wm_9_14 rfl rfl rfl rfl hW hN rfl hdg kk
theorem gg_X1_29 (G : gx p s m meth c args cc nL ret RX1 nm D dA) (hW : Wd D dA 0 α H0 σ H locs) {i : Nat} (hN : i < fN 5) (hdg : decode cc pc = .ok (.getfield 29, 3)) (kk : W p l e R s m args below meth c H locs cells slots Q (F0 m (pc + 3) ls (.int (σ.1 5 i 5) :: rest))) : W p l e R s m args below meth c H locs cells slots Q (F0 m pc ls (.ref (α 5 i) :: rest)) := g_get (C := RX1) (T := TX1) (N := 12) G inlX1 rfl 5 (by decide) wm_9_15 rfl rfl rfl rfl hW hN rfl hdg kk
theorem gg_X1_32 (G : gx p s m meth c args cc nL ret RX1 nm D dA) (hW : Wd D dA 0 α H0 σ H locs) {i : Nat} (hN : i < fN 5) (hdg : decode cc pc = .ok (.getfield 32, 3)) (kk : W p l e R s m args below meth c H locs cells slots Q (F0 m (pc + 3) ls (.int (σ.1 5 i 6) :: rest))) : W p l e R s m args below meth c H locs cells slots Q (F0 m pc ls (.ref (α 5 i) :: rest)) := g_get (C := RX1) (T := TX1) (N := 12) G inlX1 rfl 6 (by decide) wm_9_16 rfl rfl rfl rfl hW hN rfl hdg kk
theorem gg_X1_35 (G : gx p s m meth c args cc nL ret RX1 nm D dA) (hW : Wd D dA 0 α H0 σ H locs) {i : Nat} (hN : i < fN 5) (hdg : decode cc pc = .ok (.getfield 35, 3)) (kk : W p l e R s m args below meth c H locs cells slots Q (F0 m (pc + 3) ls (.int (σ.1 5 i 7) :: rest))) : W p l e R s m args below meth c H locs cells slots Q (F0 m pc ls (.ref (α 5 i) :: rest)) := g_get (C := RX1) (T := TX1) (N := 12) G inlX1 rfl 7 (by decide) wm_9_17 rfl rfl rfl rfl hW hN rfl hdg kk
theorem gg_X1_41 (G : gx p s m meth c args cc nL ret RX1 nm D dA) (hW : Wd D dA 0 α H0 σ H locs) {i : Nat} (hN : i < fN 5) (hdg : decode cc pc = .ok (.getfield 41, 3)) (kk : W p l e R s m args below meth c H locs cells slots Q (F0 m (pc + 3) ls (.int (σ.1 5 i 9) :: rest))) : W p l e R s m args below meth c H locs cells slots Q (F0 m pc ls (.ref (α 5 i) :: rest)) := g_get (C := RX1) (T := TX1) (N := 12) G inlX1 rfl 9 (by decide) wm_9_22 rfl rfl rfl rfl hW hN rfl hdg kk
theorem gg_X1_44 (G : gx p s m meth c args cc nL ret RX1 nm D dA) (hW : Wd D dA 0 α H0 σ H locs) {i : Nat} (hN : i < fN 5) (hdg : decode cc pc = .ok (.getfield 44, 3)) (kk : W p l e R s m args below meth c H locs cells slots Q (F0 m (pc + 3) ls (.int (σ.1 5 i 10) :: rest))) : W p l e R s m args below meth c H locs cells slots Q (F0 m pc ls (.ref (α 5 i) :: rest)) := g_get (C := RX1) (T := TX1) (N := 12) G inlX1 rfl 10 (by decide) wm_9_23 rfl rfl rfl rfl hW hN rfl hdg kk
theorem gg_X1_47 (G : gx p s m meth c args cc nL ret RX1 nm D dA) (hW : Wd D dA 0 α H0 σ H locs) {i : Nat} (hN : i < fN 5) (hdg : decode cc pc = .ok (.getfield 47, 3)) (kk : W p l e R s m args below meth c H locs cells slots Q (F0 m (pc + 3) ls (.int (σ.1 5 i 11) :: rest))) : W p l e R s m args below meth c H locs cells slots Q (F0 m pc ls (.ref (α 5 i) :: rest)) := g_get (C := RX1) (T := TX1) (N := 12) G inlX1 rfl 11 (by decide) wm_10_0 rfl rfl rfl rfl hW hN rfl hdg kk
theorem gg_X1_50 (G : gx p s m meth c args cc nL ret RX1 nm D dA) (hW : Wd D dA 0 α H0 σ H locs) {i : Nat} (hN : i < fN 5) (hdg : decode cc pc = .ok (.getfield 50, 3)) (kk : W p l e R s m args below meth c H locs cells slots Q (F0 m (pc + 3) ls (.int (σ.1 5 i 8) :: rest))) : W p l e R s m args below meth c H locs cells slots Q (F0 m pc ls (.ref (α 5 i) :: rest)) := g_get (C := RX1) (T := TX1) (N := 12) G inlX1 rfl 8 (by decide) wm_10_1 rfl rfl rfl rfl hW hN rfl hdg kk
theorem gg_X2_11 (G : gx p s m meth c args cc nL ret RX2 nm D dA) (hW : Wd D dA 0 α H0 σ H locs) (hN : 0 < fN 1) (hdg : decode cc pc = .ok (.getfield 11, 3)) (kk : W p l e R s m args below meth c H locs cells slots Q (F0 m (pc + 3) ls (.ref (α 7 0) :: rest))) : W p l e R s m args below meth c H locs cells slots Q (F0 m pc ls (.ref (α 1 0) :: rest)) := g_get (C := RX2) (T := TX2) (N := 4) G inlX2 rfl 0 (by decide) wm_2_7 rfl rfl rfl rfl hW hN rfl hdg kk
theorem gg_X2_19 (G : gx p s m meth c args cc nL ret RX2 nm D dA) (hW : Wd D dA 0 α H0 σ H locs) (hN : 0 < fN 1) (hdg : decode cc pc = .ok (.getfield 19, 3)) (kk : W p l e R s m args below meth c H locs cells slots Q (F0 m (pc + 3) ls (.ref (α 8 0) :: rest))) : W p l e R s m args below meth c H locs cells slots Q (F0 m pc ls (.ref (α 1 0) :: rest)) := g_get (C := RX2) (T := TX2) (N := 4) G inlX2 rfl 1 (by decide) wm_2_9 rfl rfl rfl rfl hW hN rfl hdg kk
theorem gg_X2_25 (G : gx p s m meth c args cc nL ret RX2 nm D dA) (hW : Wd D dA 0 α H0 σ H locs) (hN : 0 < fN 1) (hdg : decode cc pc = .ok (.getfield 25, 3)) (kk : W p l e R s m args below meth c H locs cells slots Q (F0 m (pc + 3) ls (.int (σ.1 1 0 2) :: rest))) : W p l e R s m args below meth c H locs cells slots Q (F0 m pc ls (.ref (α 1 0) :: rest)) := g_get (C := RX2) (T := TX2) (N := 4) G inlX2 rfl 2 (by decide) wm_7_4 rfl rfl rfl rfl hW hN rfl hdg kk
theorem gg_X2_29 (G : gx p s m meth c args cc nL ret RX2 nm D dA) (hW : Wd D dA 0 α H0 σ H locs) (hN : 0 < fN 1) (hdg : decode cc pc = .ok (.getfield 29, 3)) (kk : W p l e R s m args below meth c H locs cells slots Q (F0 m (pc + 3) ls (.int (σ.1 1 0 3) :: rest))) : W p l e R s m args below meth c H locs cells slots Q (F0 m pc ls (.ref (α 1 0) :: rest)) := g_get (C := RX2) (T := TX2) (N := 4) G inlX2 rfl 3 (by decide) wm_9_5 rfl rfl rfl rfl hW hN rfl hdg kk
theorem gg_X2_39 (G : gx p s m meth c args cc nL ret RX2 nm D dA) (hW : Wd D dA 0 α H0 σ H locs) {i : Nat} (hN : i < fN 4) (hdg : decode cc pc = .ok (.getfield 39, 3)) (kk : W p l e R s m args below meth c H locs cells slots Q (F0 m (pc + 3) ls (.int (σ.1 4 i 5) :: rest))) : W p l e R s m args below meth c H locs cells slots Q (F0 m pc ls (.ref (α 4 i) :: rest)) := g_get (C := RX4) (T := TX4) (N := 17) G inlX4 rfl 5 (by decide) wm_9_6 rfl rfl rfl rfl hW hN rfl hdg kk
theorem gg_X2_42 (G : gx p s m meth c args cc nL ret RX2 nm D dA) (hW : Wd D dA 0 α H0 σ H locs) {i : Nat} (hN : i < fN 4) (hdg : decode cc pc = .ok (.getfield 42, 3)) (kk : W p l e R s m args below meth c H locs cells slots Q (F0 m (pc + 3) ls (.int (σ.1 4 i 4) :: rest))) : W p l e R s m args below meth c H locs cells slots Q (F0 m pc ls (.ref (α 4 i) :: rest)) := g_get (C := RX4) (T := TX4) (N := 17) G inlX4 rfl 4 (by decide) wm_23_20 rfl rfl rfl rfl hW hN rfl hdg kk
theorem gg_X2_53 (G : gx p s m meth c args cc nL ret RX2 nm D dA) (hW : Wd D dA 0 α H0 σ H locs) {i : Nat} (hN : i < fN 4) (hdg : decode cc pc = .ok (.getfield 53, 3)) (kk : W p l e R s m args below meth c H locs cells slots Q (F0 m (pc + 3) ls (.int (σ.1 4 i 2) :: rest))) : W p l e R s m args below meth c H locs cells slots Q (F0 m pc ls (.ref (α 4 i) :: rest)) := g_get (C := RX4) (T := TX4) (N := 17) G inlX4 rfl 2 (by decide) wm_12_6 rfl rfl rfl rfl hW hN rfl hdg kk
theorem gg_X2_56 (G : gx p s m meth c args cc nL ret RX2 nm D dA) (hW : Wd D dA 0 α H0 σ H locs) {i : Nat} (hN : i < fN 4) (hdg : decode cc pc = .ok (.getfield 56, 3)) (kk : W p l e R s m args below meth c H locs cells slots Q (F0 m (pc + 3) ls (.int (σ.1 4 i 11) :: rest))) : W p l e R s m args below meth c H locs cells slots Q (F0 m pc ls (.ref (α 4 i) :: rest)) := g_get (C := RX4) (T := TX4) (N := 17) G inlX4 rfl 11 (by decide) wm_14_10 rfl rfl rfl rfl hW hN rfl hdg kk
theorem gg_X2_59 (G : gx p s m meth c args cc nL ret RX2 nm D dA) (hW : Wd D dA 0 α H0 σ H locs) {i : Nat} (hN : i < fN 4) (hdg : decode cc pc = .ok (.getfield 59, 3)) (kk : W p l e R s m args below meth c H locs cells slots Q (F0 m (pc + 3) ls (.int (σ.1 4 i 3) :: rest))) : W p l e R s m args below meth c H locs cells slots Q (F0 m pc ls (.ref (α 4 i) :: rest)) := g_get (C := RX4) (T := TX4) (N := 17) G inlX4 rfl 3 (by decide) wm_14_11 rfl rfl rfl rfl hW hN rfl hdg kk
theorem gg_X2_62 (G : gx p s m meth c args cc nL ret RX2 nm D dA) (hW : Wd D dA 0 α H0 σ H locs) {i : Nat} (hN : i < fN 5) (hdg : decode cc pc = .ok (.getfield 62, 3)) (kk : W p l e R s m args below meth c H locs cells slots Q (F0 m (pc + 3) ls (.int (σ.1 5 i 2) :: rest))) : W p l e R s m args below meth c H locs cells slots Q (F0 m pc ls (.ref (α 5 i) :: rest)) := g_get (C := RX1) (T := TX1) (N := 12) G inlX1 rfl 2 (by decide) wm_14_12 rfl rfl rfl rfl hW hN rfl hdg kk
theorem gg_X2_65 (G : gx p s m meth c args cc nL ret RX2 nm D dA) (hW : Wd D dA 0 α H0 σ H locs) {i : Nat} (hN : i < fN 5) (hdg : decode cc pc = .ok (.getfield 65, 3)) (kk : W p l e R s m args below meth c H locs cells slots Q (F0 m (pc + 3) ls (.int (σ.1 5 i 6) :: rest))) : W p l e R s m args below meth c H locs cells slots Q (F0 m pc ls (.ref (α 5 i) :: rest)) := g_get (C := RX1) (T := TX1) (N := 12) G inlX1 rfl 6 (by decide) wm_14_13 rfl rfl rfl rfl hW hN rfl hdg kk
theorem gg_X2_71 (G : gx p s m meth c args cc nL ret RX2 nm D dA) (hW : Wd D dA 0 α H0 σ H locs) {i : Nat} (hN : i < fN 4) (hdg : decode cc pc = .ok (.getfield 71, 3)) (kk : W p l e R s m args below meth c H locs cells slots Q (F0 m (pc + 3) ls (.int (σ.1 4 i 13) :: rest))) : W p l e R s m args below meth c H locs cells slots Q (F0 m pc ls (.ref (α 4 i) :: rest)) := g_get (C := RX4) (T := TX4) (N := 17) G inlX4 rfl 13 (by decide) wm_12_7 rfl rfl rfl rfl hW hN rfl hdg kk
theorem gg_X2_74 (G : gx p s m meth c args cc nL ret RX2 nm D dA) (hW : Wd D dA 0 α H0 σ H locs) {i : Nat} (hN : i < fN 5) (hdg : decode cc pc = .ok (.getfield 74, 3)) (kk : W p l e R s m args below meth c H locs cells slots Q (F0 m (pc + 3) ls (.int (σ.1 5 i 1) :: rest))) : W p l e R s m args below meth c H locs cells slots Q (F0 m pc ls (.ref (α 5 i) :: rest)) := g_get (C := RX1) (T := TX1) (N := 12) G inlX1 rfl 1 (by decide) wm_12_8 rfl rfl rfl rfl hW hN rfl hdg kk
theorem gg_X2_77 (G : gx p s m meth c args cc nL ret RX2 nm D dA) (hW : Wd D dA 0 α H0 σ H locs) {i : Nat} (hN : i < fN 5) (hdg : decode cc pc = .ok (.getfield 77, 3)) (kk : W p l e R s m args below meth c H locs cells slots Q (F0 m (pc + 3) ls (.int (σ.1 5 i 5) :: rest))) : W p l e R s m args below meth c H locs cells slots Q (F0 m pc ls (.ref (α 5 i) :: rest)) := g_get (C := RX1) (T := TX1) (N := 12) G inlX1 rfl 5 (by decide) wm_12_9 rfl rfl rfl rfl hW hN rfl hdg kk
theorem gg_X2_90 (G : gx p s m meth c args cc nL ret RX2 nm D dA) (hW : Wd D dA 0 α H0 σ H locs) {i : Nat} (hN : i < fN 5) (hdg : decode cc pc = .ok (.getfield 90, 3)) (kk : W p l e R s m args below meth c H locs cells slots Q (F0 m (pc + 3) ls (.int (σ.1 5 i 3) :: rest))) : W p l e R s m args below meth c H locs cells slots Q (F0 m pc ls (.ref (α 5 i) :: rest)) := g_get (C := RX1) (T := TX1) (N := 12) G inlX1 rfl 3 (by decide) wm_16_11 rfl rfl rfl rfl hW hN rfl hdg kk
theorem gg_X2_110 (G : gx p s m meth c args cc nL ret RX2 nm D dA) (hW : Wd D dA 0 α H0 σ H locs) {i : Nat} (hN : i < fN 5) (hdg : decode cc pc = .ok (.getfield 110, 3)) (kk : W p l e R s m args below meth c H locs cells slots Q (F0 m (pc + 3) ls (.int (σ.1 5 i 7) :: rest))) : W p l e R s m args below meth c H locs cells slots Q (F0 m pc ls (.ref (α 5 i) :: rest)) := g_get (C := RX1) (T := TX1) (N := 12) G inlX1 rfl 7 (by decide) wm_16_10 rfl rfl rfl rfl hW hN rfl hdg kk
theorem gg_X2_117 (G : gx p s m meth c args cc nL ret RX2 nm D dA) (hW : Wd D dA 0 α H0 σ H locs) {i : Nat} (hN : i < fN 5) (hdg : decode cc pc = .ok (.getfield 117, 3)) (kk : W p l e R s m args below meth c H locs cells slots Q (F0 m (pc + 3) ls (.int (σ.1 5 i 8) :: rest))) : W p l e R s m args below meth c H locs cells slots Q (F0 m pc ls (.ref (α 5 i) :: rest)) := g_get (C := RX1) (T := TX1) (N := 12) G inlX1 rfl 8 (by decide) wm_16_12 rfl rfl rfl rfl hW hN rfl hdg kk
theorem gg_X3_9 (G : gx p s m meth c args cc nL ret RX3 nm D dA) (hW : Wd D dA 0 α H0 σ H locs) (hN : 0 < fN 2) (hdg : decode cc pc = .ok (.getfield 9, 3)) (kk : W p l e R s m args below meth c H locs cells slots Q (F0 m (pc + 3) ls (.ref (α 9 0) :: rest))) : W p l e R s m args below meth c H locs cells slots Q (F0 m pc ls (.ref (α 2 0) :: rest)) := g_get (C := RX3) (T := TX3) (N := 5) G inlX3 rfl 0 (by decide) wm_3_3 rfl rfl rfl rfl hW hN rfl hdg kk
theorem gg_X3_15 (G : gx p s m meth c args cc nL ret RX3 nm D dA) (hW : Wd D dA 0 α H0 σ H locs) (hN : 0 < fN 2) (hdg : decode cc pc = .ok (.getfield 15, 3)) (kk : W p l e R s m args below meth c H locs cells slots Q (F0 m (pc + 3) ls (.ref (α 10 0) :: rest))) : W p l e R s m args below meth c H locs cells slots Q (F0 m pc ls (.ref (α 2 0) :: rest)) := g_get (C := RX3) (T := TX3) (N := 5) G inlX3 rfl 1 (by decide) wm_3_4 rfl rfl rfl rfl hW hN rfl hdg kk
theorem gg_X3_18 (G : gx p s m meth c args cc nL ret RX3 nm D dA) (hW : Wd D dA 0 α H0 σ H locs) (hN : 0 < fN 2) (hdg : decode cc pc = .ok (.getfield 18, 3)) (kk : W p l e R s m args below meth c H locs cells slots Q (F0 m (pc + 3) ls (.int (σ.1 2 0 2) :: rest))) : W p l e R s m args below meth c H locs cells slots Q (F0 m pc ls (.ref (α 2 0) :: rest)) := g_get (C := RX3) (T := TX3) (N := 5) G inlX3 rfl 2 (by decide) wm_11_21 rfl rfl rfl rfl hW hN rfl hdg kk
theorem gg_X3_22 (G : gx p s m meth c args cc nL ret RX3 nm D dA) (hW : Wd D dA 0 α H0 σ H locs) (hN : 0 < fN 2) (hdg : decode cc pc = .ok (.getfield 22, 3)) (kk : W p l e R s m args below meth c H locs cells slots Q (F0 m (pc + 3) ls (.int (σ.1 2 0 3) :: rest))) : W p l e R s m args below meth c H locs cells slots Q (F0 m pc ls (.ref (α 2 0) :: rest)) := g_get (C := RX3) (T := TX3) (N := 5) G inlX3 rfl 3 (by decide) wm_11_22 rfl rfl rfl rfl hW hN rfl hdg kk
theorem gg_X3_32 (G : gx p s m meth c args cc nL ret RX3 nm D dA) (hW : Wd D dA 0 α H0 σ H locs) (hN : 0 < fN 2) (hdg : decode cc pc = .ok (.getfield 32, 3)) (kk : W p l e R s m args below meth c H locs cells slots Q (F0 m (pc + 3) ls (.int (σ.1 2 0 4) :: rest))) : W p l e R s m args below meth c H locs cells slots Q (F0 m pc ls (.ref (α 2 0) :: rest)) := g_get (C := RX3) (T := TX3) (N := 5) G inlX3 rfl 4 (by decide) wm_11_23 rfl rfl rfl rfl hW hN rfl hdg kk
theorem gg_X3_35 (G : gx p s m meth c args cc nL ret RX3 nm D dA) (hW : Wd D dA 0 α H0 σ H locs) (hN : 0 < fN 1) (hdg : decode cc pc = .ok (.getfield 35, 3)) (kk : W p l e R s m args below meth c H locs cells slots Q (F0 m (pc + 3) ls (.ref (α 7 0) :: rest))) : W p l e R s m args below meth c H locs cells slots Q (F0 m pc ls (.ref (α 1 0) :: rest)) := g_get (C := RX2) (T := TX2) (N := 4) G inlX2 rfl 0 (by decide) wm_12_0 rfl rfl rfl rfl hW hN rfl hdg kk
theorem gg_X3_39 (G : gx p s m meth c args cc nL ret RX3 nm D dA) (hW : Wd D dA 0 α H0 σ H locs) {i : Nat} (hN : i < fN 4) (hdg : decode cc pc = .ok (.getfield 39, 3)) (kk : W p l e R s m args below meth c H locs cells slots Q (F0 m (pc + 3) ls (.int (σ.1 4 i 2) :: rest))) : W p l e R s m args below meth c H locs cells slots Q (F0 m pc ls (.ref (α 4 i) :: rest)) := g_get (C := RX4) (T := TX4) (N := 17) G inlX4 rfl 2 (by decide) wm_12_1 rfl rfl rfl rfl hW hN rfl hdg kk
theorem gg_X3_52 (G : gx p s m meth c args cc nL ret RX3 nm D dA) (hW : Wd D dA 0 α H0 σ H locs) {i : Nat} (hN : i < fN 4) (hdg : decode cc pc = .ok (.getfield 52, 3)) (kk : W p l e R s m args below meth c H locs cells slots Q (F0 m (pc + 3) ls (.int (σ.1 4 i 11) :: rest))) : W p l e R s m args below meth c H locs cells slots Q (F0 m pc ls (.ref (α 4 i) :: rest)) := g_get (C := RX4) (T := TX4) (N := 17) G inlX4 rfl 11 (by decide) wm_12_17 rfl rfl rfl rfl hW hN rfl hdg kk
theorem gg_X3_55 (G : gx p s m meth c args cc nL ret RX3 nm D dA) (hW : Wd D dA 0 α H0 σ H locs) {i : Nat} (hN : i < fN 4) (hdg : decode cc pc = .ok (.getfield 55, 3)) (kk : W p l e R s m args below meth c H locs cells slots Q (F0 m (pc + 3) ls (.int (σ.1 4 i 3) :: rest))) : W p l e R s m args below meth c H locs cells slots Q (F0 m pc ls (.ref (α 4 i) :: rest)) := g_get (C := RX4) (T := TX4) (N := 17) G inlX4 rfl 3 (by decide) wm_12_18 rfl rfl rfl rfl hW hN rfl hdg kk
theorem gg_X3_70 (G : gx p s m meth c args cc nL ret RX3 nm D dA) (hW : Wd D dA 0 α H0 σ H locs) (hN : 0 < fN 1) (hdg : decode cc pc = .ok (.getfield 70, 3)) (kk : W p l e R s m args below meth c H locs cells slots Q (F0 m (pc + 3) ls (.int (σ.1 1 0 3) :: rest))) : W p l e R s m args below meth c H locs cells slots Q (F0 m pc ls (.ref (α 1 0) :: rest)) := g_get (C := RX2) (T := TX2) (N := 4) G inlX2 rfl 3 (by decide) wm_13_21 rfl rfl rfl rfl hW hN rfl hdg kk
theorem gg_X3_73 (G : gx p s m meth c args cc nL ret RX3 nm D dA) (hW : Wd D dA 0 α H0 σ H locs) (hN : 0 < fN 1) (hdg : decode cc pc = .ok (.getfield 73, 3)) (kk : W p l e R s m args below meth c H locs cells slots Q (F0 m (pc + 3) ls (.ref (α 8 0) :: rest))) : W p l e R s m args below meth c H locs cells slots Q (F0 m pc ls (.ref (α 1 0) :: rest)) := g_get (C := RX2) (T := TX2) (N := 4) G inlX2 rfl 1 (by decide) wm_13_22 rfl rfl rfl rfl hW hN rfl hdg kk
theorem gg_X3_76 (G : gx p s m meth c args cc nL ret RX3 nm D dA) (hW : Wd D dA 0 α H0 σ H locs) {i : Nat} (hN : i < fN 5) (hdg : decode cc pc = .ok (.getfield 76, 3)) (kk : W p l e R s m args below meth c H locs cells slots Q (F0 m (pc + 3) ls (.int (σ.1 5 i 2) :: rest))) : W p l e R s m args below meth c H locs cells slots Q (F0 m pc ls (.ref (α 5 i) :: rest)) := g_get (C := RX1) (T := TX1) (N := 12) G inlX1 rfl 2 (by decide) wm_13_23 rfl rfl rfl rfl hW hN rfl hdg kk
theorem gg_X3_81 (G : gx p s m meth c args cc nL ret RX3 nm D dA) (hW : Wd D dA 0 α H0 σ H locs) {i : Nat} (hN : i < fN 5) (hdg : decode cc pc = .ok (.getfield 81, 3)) (kk : W p l e R s m args below meth c H locs cells slots Q (F0 m (pc + 3) ls (.int (σ.1 5 i 6) :: rest))) : W p l e R s m args below meth c H locs cells slots Q (F0 m pc ls (.ref (α 5 i) :: rest)) := g_get (C := RX1) (T := TX1) (N := 12) G inlX1 rfl 6 (by decide) wm_14_0 rfl rfl rfl rfl hW hN rfl hdg kk
theorem gg_X3_88 (G : gx p s m meth c args cc nL ret RX3 nm D dA) (hW : Wd D dA 0 α H0 σ H locs) {i : Nat} (hN : i < fN 5) (hdg : decode cc pc = .ok (.getfield 88, 3)) (kk : W p l e R s m args below meth c H locs cells slots Q (F0 m (pc + 3) ls (.ref (α 16 i) :: rest))) : W p l e R s m args below meth c H locs cells slots Q (F0 m pc ls (.ref (α 5 i) :: rest)) := g_get (C := RX1) (T := TX1) (N := 12) G inlX1 rfl 0 (by decide) wm_14_1 rfl rfl rfl rfl hW hN rfl hdg kk
theorem gg_X3_94 (G : gx p s m meth c args cc nL ret RX3 nm D dA) (hW : Wd D dA 0 α H0 σ H locs) {i : Nat} (hN : i < fN 4) (hdg : decode cc pc = .ok (.getfield 94, 3)) (kk : W p l e R s m args below meth c H locs cells slots Q (F0 m (pc + 3) ls (.int (σ.1 4 i 7) :: rest))) : W p l e R s m args below meth c H locs cells slots Q (F0 m pc ls (.ref (α 4 i) :: rest)) := g_get (C := RX4) (T := TX4) (N := 17) G inlX4 rfl 7 (by decide) wm_12_23 rfl rfl rfl rfl hW hN rfl hdg kk
theorem gg_X4_9 (G : gx p s m meth c args cc nL ret RX4 nm D dA) (hW : Wd D dA 0 α H0 σ H locs) {i : Nat} (hN : i < fN 4) (hdg : decode cc pc = .ok (.getfield 9, 3)) (kk : W p l e R s m args below meth c H locs cells slots Q (F0 m (pc + 3) ls (.ref (α 14 i) :: rest))) : W p l e R s m args below meth c H locs cells slots Q (F0 m pc ls (.ref (α 4 i) :: rest)) := g_get (C := RX4) (T := TX4) (N := 17) G inlX4 rfl 0 (by decide) wm_2_18 rfl rfl rfl rfl hW hN rfl hdg kk
theorem gg_X4_15 (G : gx p s m meth c args cc nL ret RX4 nm D dA) (hW : Wd D dA 0 α H0 σ H locs) {i : Nat} (hN : i < fN 4) (hdg : decode cc pc = .ok (.getfield 15, 3)) (kk : W p l e R s m args below meth c H locs cells slots Q (F0 m (pc + 3) ls (.ref (α 15 i) :: rest))) : W p l e R s m args below meth c H locs cells slots Q (F0 m pc ls (.ref (α 4 i) :: rest)) := g_get (C := RX4) (T := TX4) (N := 17) G inlX4 rfl 1 (by decide) wm_2_19 rfl rfl rfl rfl hW hN rfl hdg kk
theorem gg_X4_18 (G : gx p s m meth c args cc nL ret RX4 nm D dA) (hW : Wd D dA 0 α H0 σ H locs) {i : Nat} (hN : i < fN 4) (hdg : decode cc pc = .ok (.getfield 18, 3)) (kk : W p l e R s m args below meth c H locs cells slots Q (F0 m (pc + 3) ls (.int (σ.1 4 i 2) :: rest))) : W p l e R s m args below meth c H locs cells slots Q (F0 m pc ls (.ref (α 4 i) :: rest)) := g_get (C := RX4) (T := TX4) (N := 17) G inlX4 rfl 2 (by decide) wm_7_9 rfl rfl rfl rfl hW hN rfl hdg kk
theorem gg_X4_22 (G : gx p s m meth c args cc nL ret RX4 nm D dA) (hW : Wd D dA 0 α H0 σ H locs) {i : Nat} (hN : i < fN 4) (hdg : decode cc pc = .ok (.getfield 22, 3)) (kk : W p l e R s m args below meth c H locs cells slots Q (F0 m (pc + 3) ls (.int (σ.1 4 i 3) :: rest))) : W p l e R s m args below meth c H locs cells slots Q (F0 m pc ls (.ref (α 4 i) :: rest)) := g_get (C := RX4) (T := TX4) (N := 17) G inlX4 rfl 3 (by decide) wm_7_10 rfl rfl rfl rfl hW hN rfl hdg kk
theorem gg_X4_31 (G : gx p s m meth c args cc nL ret RX4 nm D dA) (hW : Wd D dA 0 α H0 σ H locs) {i : Nat} (hN : i < fN 4) (hdg : decode cc pc = .ok (.getfield 31, 3)) (kk : W p l e R s m args below meth c H locs cells slots Q (F0 m (pc + 3) ls (.int (σ.1 4 i 6) :: rest))) : W p l e R s m args below meth c H locs cells slots Q (F0 m pc ls (.ref (α 4 i) :: rest)) := g_get (C := RX4) (T := TX4) (N := 17) G inlX4 rfl 6 (by decide) wm_7_13 rfl rfl rfl rfl hW hN rfl hdg kk
theorem gg_X4_34 (G : gx p s m meth c args cc nL ret RX4 nm D dA) (hW : Wd D dA 0 α H0 σ H locs) {i : Nat} (hN : i < fN 4) (hdg : decode cc pc = .ok (.getfield 34, 3)) (kk : W p l e R s m args below meth c H locs cells slots Q (F0 m (pc + 3) ls (.int (σ.1 4 i 7) :: rest))) : W p l e R s m args below meth c H locs cells slots Q (F0 m pc ls (.ref (α 4 i) :: rest)) := g_get (C := RX4) (T := TX4) (N := 17) G inlX4 rfl 7 (by decide) wm_7_14 rfl rfl rfl rfl hW hN rfl hdg kk
theorem gg_X4_40 (G : gx p s m meth c args cc nL ret RX4 nm D dA) (hW : Wd D dA 0 α H0 σ H locs) {i : Nat} (hN : i < fN 4) (hdg : decode cc pc = .ok (.getfield 40, 3)) (kk : W p l e R s m args below meth c H locs cells slots Q (F0 m (pc + 3) ls (.int (σ.1 4 i 9) :: rest))) : W p l e R s m args below meth c H locs cells slots Q (F0 m pc ls (.ref (α 4 i) :: rest)) := g_get (C := RX4) (T := TX4) (N := 17) G inlX4 rfl 9 (by decide) wm_7_16 rfl rfl rfl rfl hW hN rfl hdg kk
theorem gg_X4_43 (G : gx p s m meth c args cc nL ret RX4 nm D dA) (hW : Wd D dA 0 α H0 σ H locs) {i : Nat} (hN : i < fN 4) (hdg : decode cc pc = .ok (.getfield 43, 3)) (kk : W p l e R s m args below meth c H locs cells slots Q (F0 m (pc + 3) ls (.int (σ.1 4 i 10) :: rest))) : W p l e R s m args below meth c H locs cells slots Q (F0 m pc ls (.ref (α 4 i) :: rest)) := g_get (C := RX4) (T := TX4) (N := 17) G inlX4 rfl 10 (by decide) wm_7_17 rfl rfl rfl rfl hW hN rfl hdg kk
theorem gg_X4_46 (G : gx p s m meth c args cc nL ret RX4 nm D dA) (hW : Wd D dA 0 α H0 σ H locs) {i : Nat} (hN : i < fN 4) (hdg : decode cc pc = .ok (.getfield 46, 3)) (kk : W p l e R s m args below meth c H locs cells slots Q (F0 m (pc + 3) ls (.int (σ.1 4 i 11) :: rest))) : W p l e R s m args below meth c H locs cells slots Q (F0 m pc ls (.ref (α 4 i) :: rest)) := g_get (C := RX4) (T := TX4) (N := 17) G inlX4 rfl 11 (by decide) wm_7_18 rfl rfl rfl rfl hW hN rfl hdg kk
theorem gg_X4_49 (G : gx p s m meth c args cc nL ret RX4 nm D dA) (hW : Wd D dA 0 α H0 σ H locs) {i : Nat} (hN : i < fN 4) (hdg : decode cc pc = .ok (.getfield 49, 3)) (kk : W p l e R s m args below meth c H locs cells slots Q (F0 m (pc + 3) ls (.int (σ.1 4 i 12) :: rest))) : W p l e R s m args below meth c H locs cells slots Q (F0 m pc ls (.ref (α 4 i) :: rest)) := g_get (C := RX4) (T := TX4) (N := 17) G inlX4 rfl 12 (by decide) wm_7_19 rfl rfl rfl rfl hW hN rfl hdg kk
theorem gg_X4_52 (G : gx p s m meth c args cc nL ret RX4 nm D dA) (hW : Wd D dA 0 α H0 σ H locs) {i : Nat} (hN : i < fN 4) (hdg : decode cc pc = .ok (.getfield 52, 3)) (kk : W p l e R s m args below meth c H locs cells slots Q (F0 m (pc + 3) ls (.int (σ.1 4 i 13) :: rest))) : W p l e R s m args below meth c H locs cells slots Q (F0 m pc ls (.ref (α 4 i) :: rest)) := g_get (C := RX4) (T := TX4) (N := 17) G inlX4 rfl 13 (by decide) wm_7_20 rfl rfl rfl rfl hW hN rfl hdg kk
theorem gg_X4_58 (G : gx p s m meth c args cc nL ret RX4 nm D dA) (hW : Wd D dA 0 α H0 σ H locs) {i : Nat} (hN : i < fN 4) (hdg : decode cc pc = .ok (.getfield 58, 3)) (kk : W p l e R s m args below meth c H locs cells slots Q (F0 m (pc + 3) ls (.int (σ.1 4 i 14) :: rest))) : W p l e R s m args below meth c H locs cells slots Q (F0 m pc ls (.ref (α 4 i) :: rest)) := g_get (C := RX4) (T := TX4) (N := 17) G inlX4 rfl 14 (by decide) wm_8_1 rfl rfl rfl rfl hW hN rfl hdg kk
theorem gg_X4_61 (G : gx p s m meth c args cc nL ret RX4 nm D dA) (hW : Wd D dA 0 α H0 σ H locs) {i : Nat} (hN : i < fN 4) (hdg : decode cc pc = .ok (.getfield 61, 3)) (kk : W p l e R s m args below meth c H locs cells slots Q (F0 m (pc + 3) ls (.int (σ.1 4 i 15) :: rest))) : W p l e R s m args below meth c H locs cells slots Q (F0 m pc ls (.ref (α 4 i) :: rest)) := g_get (C := RX4) (T := TX4) (N := 17) G inlX4 rfl 15 (by decide) wm_8_2 rfl rfl rfl rfl hW hN rfl hdg kk
theorem gg_X4_64 (G : gx p s m meth c args cc nL ret RX4 nm D dA) (hW : Wd D dA 0 α H0 σ H locs) {i : Nat} (hN : i < fN 4) (hdg : decode cc pc = .ok (.getfield 64, 3)) (kk : W p l e R s m args below meth c H locs cells slots Q (F0 m (pc + 3) ls (.int (σ.1 4 i 16) :: rest))) : W p l e R s m args below meth c H locs cells slots Q (F0 m pc ls (.ref (α 4 i) :: rest)) := g_get (C := RX4) (T := TX4) (N := 17) G inlX4 rfl 16 (by decide) wm_8_3 rfl rfl rfl rfl hW hN rfl hdg kk
theorem gg_X6_7 (G : gx p s m meth c args cc nL ret RX6 nm D dA) (hW : Wd D dA 1 α H0 σ H locs) (hN : 0 < fN 20) (hdg : decode cc pc = .ok (.getfield 7, 3)) (kk : W p l e R s m args below meth c H locs cells slots Q (F0 m (pc + 3) ls (.ref (α 21 0) :: rest))) : W p l e R s m args below meth c H locs cells slots Q (F0 m pc ls (.ref (α 20 0) :: rest)) := g_get (C := RX6) (T := TX6) (N := 51) G inlX6 rfl 1 (by decide) wm_4_7 rfl rfl rfl rfl hW hN rfl hdg kk
theorem gg_X6_13 (G : gx p s m meth c args cc nL ret RX6 nm D dA) (hW : Wd D dA 1 α H0 σ H locs) (hN : 0 < fN 20) (hdg : decode cc pc = .ok (.getfield 13, 3)) (kk : W p l e R s m args below meth c H locs cells slots Q (F0 m (pc + 3) ls (.ref (α 22 0) :: rest))) : W p l e R s m args below meth c H locs cells slots Q (F0 m pc ls (.ref (α 20 0) :: rest)) := g_get (C := RX6) (T := TX6) (N := 51) G inlX6 rfl 2 (by decide) wm_4_8 rfl rfl rfl rfl hW hN rfl hdg kk
theorem gg_X6_16 (G : gx p s m meth c args cc nL ret RX6 nm D dA) (hW : Wd D dA 1 α H0 σ H locs) (hN : 0 < fN 20) (hdg : decode cc pc = .ok (.getfield 16, 3)) (kk : W p l e R s m args below meth c H locs cells slots Q (F0 m (pc + 3) ls (.ref (α 23 0) :: rest))) : W p l e R s m args below meth c H locs cells slots Q (F0 m pc ls (.ref (α 20 0) :: rest)) := g_get (C := RX6) (T := TX6) (N := 51) G inlX6 rfl 3 (by decide) wm_4_9 rfl rfl rfl rfl hW hN rfl hdg kk
theorem gg_X6_19 (G : gx p s m meth c args cc nL ret RX6 nm D dA) (hW : Wd D dA 1 α H0 σ H locs) (hN : 0 < fN 20) (hdg : decode cc pc = .ok (.getfield 19, 3)) (kk : W p l e R s m args below meth c H locs cells slots Q (F0 m (pc + 3) ls (.ref (α 24 0) :: rest))) : W p l e R s m args below meth c H locs cells slots Q (F0 m pc ls (.ref (α 20 0) :: rest)) := g_get (C := RX6) (T := TX6) (N := 51) G inlX6 rfl 4 (by decide) wm_4_10 rfl rfl rfl rfl hW hN rfl hdg kk
theorem gg_X6_22 (G : gx p s m meth c args cc nL ret RX6 nm D dA) (hW : Wd D dA 1 α H0 σ H locs) (hN : 0 < fN 20) (hdg : decode cc pc = .ok (.getfield 22, 3)) (kk : W p l e R s m args below meth c H locs cells slots Q (F0 m (pc + 3) ls (.ref (α 25 0) :: rest))) : W p l e R s m args below meth c H locs cells slots Q (F0 m pc ls (.ref (α 20 0) :: rest)) := g_get (C := RX6) (T := TX6) (N := 51) G inlX6 rfl 5 (by decide) wm_4_11 rfl rfl rfl rfl hW hN rfl hdg kk
theorem gg_X6_25 (G : gx p s m meth c args cc nL ret RX6 nm D dA) (hW : Wd D dA 1 α H0 σ H locs) (hN : 0 < fN 20) (hdg : decode cc pc = .ok (.getfield 25, 3)) (kk : W p l e R s m args below meth c H locs cells slots Q (F0 m (pc + 3) ls (.ref (α 26 0) :: rest))) : W p l e R s m args below meth c H locs cells slots Q (F0 m pc ls (.ref (α 20 0) :: rest)) := g_get (C := RX6) (T := TX6) (N := 51) G inlX6 rfl 6 (by decide) wm_4_12 rfl rfl rfl rfl hW hN rfl hdg kk
theorem gg_X6_28 (G : gx p s m meth c args cc nL ret RX6 nm D dA) (hW : Wd D dA 1 α H0 σ H locs) (hN : 0 < fN 20) (hdg : decode cc pc = .ok (.getfield 28, 3)) (kk : W p l e R s m args below meth c H locs cells slots Q (F0 m (pc + 3) ls (.ref (α 27 0) :: rest))) : W p l e R s m args below meth c H locs cells slots Q (F0 m pc ls (.ref (α 20 0) :: rest)) := g_get (C := RX6) (T := TX6) (N := 51) G inlX6 rfl 7 (by decide) wm_4_13 rfl rfl rfl rfl hW hN rfl hdg kk
theorem gg_X6_31 (G : gx p s m meth c args cc nL ret RX6 nm D dA) (hW : Wd D dA 1 α H0 σ H locs) (hN : 0 < fN 20) (hdg : decode cc pc = .ok (.getfield 31, 3)) (kk : W p l e R s m args below meth c H locs cells slots Q (F0 m (pc + 3) ls (.ref (α 28 0) :: rest))) : W p l e R s m args below meth c H locs cells slots Q (F0 m pc ls (.ref (α 20 0) :: rest)) := g_get (C := RX6) (T := TX6) (N := 51) G inlX6 rfl 8 (by decide) wm_4_14 rfl rfl rfl rfl hW hN rfl hdg kk
theorem gg_X6_34 (G : gx p s m meth c args cc nL ret RX6 nm D dA) (hW : Wd D dA 1 α H0 σ H locs) (hN : 0 < fN 20) (hdg : decode cc pc = .ok (.getfield 34, 3)) (kk : W p l e R s m args below meth c H locs cells slots Q (F0 m (pc + 3) ls (.ref (α 29 0) :: rest))) : W p l e R s m args below meth c H locs cells slots Q (F0 m pc ls (.ref (α 20 0) :: rest)) := g_get (C := RX6) (T := TX6) (N := 51) G inlX6 rfl 9 (by decide) wm_4_15 rfl rfl rfl rfl hW hN rfl hdg kk
theorem gg_X6_37 (G : gx p s m meth c args cc nL ret RX6 nm D dA) (hW : Wd D dA 1 α H0 σ H locs) (hN : 0 < fN 20) (hdg : decode cc pc = .ok (.getfield 37, 3)) (kk : W p l e R s m args below meth c H locs cells slots Q (F0 m (pc + 3) ls (.ref (α 30 0) :: rest))) : W p l e R s m args below meth c H locs cells slots Q (F0 m pc ls (.ref (α 20 0) :: rest)) := g_get (C := RX6) (T := TX6) (N := 51) G inlX6 rfl 10 (by decide) wm_4_16 rfl rfl rfl rfl hW hN rfl hdg kk
theorem gg_X6_40 (G : gx p s m meth c args cc nL ret RX6 nm D dA) (hW : Wd D dA 1 α H0 σ H locs) (hN : 0 < fN 20) (hdg : decode cc pc = .ok (.getfield 40, 3)) (kk : W p l e R s m args below meth c H locs cells slots Q (F0 m (pc + 3) ls (.ref (α 31 0) :: rest))) : W p l e R s m args below meth c H locs cells slots Q (F0 m pc ls (.ref (α 20 0) :: rest)) := g_get (C := RX6) (T := TX6) (N := 51) G inlX6 rfl 11 (by decide) wm_4_17 rfl rfl rfl rfl hW hN rfl hdg kk
theorem gg_X6_43 (G : gx p s m meth c args cc nL ret RX6 nm D dA) (hW : Wd D dA 1 α H0 σ H locs) (hN : 0 < fN 20) (hdg : decode cc pc = .ok (.getfield 43, 3)) (kk : W p l e R s m args below meth c H locs cells slots Q (F0 m (pc + 3) ls (.ref (α 32 0) :: rest))) : W p l e R s m args below meth c H locs cells slots Q (F0 m pc ls (.ref (α 20 0) :: rest)) := g_get (C := RX6) (T := TX6) (N := 51) G inlX6 rfl 12 (by decide) wm_4_18 rfl rfl rfl rfl hW hN rfl hdg kk
theorem gg_X6_46 (G : gx p s m meth c args cc nL ret RX6 nm D dA) (hW : Wd D dA 1 α H0 σ H locs) (hN : 0 < fN 20) (hdg : decode cc pc = .ok (.getfield 46, 3)) (kk : W p l e R s m args below meth c H locs cells slots Q (F0 m (pc + 3) ls (.ref (α 33 0) :: rest))) : W p l e R s m args below meth c H locs cells slots Q (F0 m pc ls (.ref (α 20 0) :: rest)) := g_get (C := RX6) (T := TX6) (N := 51) G inlX6 rfl 13 (by decide) wm_4_19 rfl rfl rfl rfl hW hN rfl hdg kk
theorem gg_X6_49 (G : gx p s m meth c args cc nL ret RX6 nm D dA) (hW : Wd D dA 1 α H0 σ H locs) (hN : 0 < fN 20) (hdg : decode cc pc = .ok (.getfield 49, 3)) (kk : W p l e R s m args below meth c H locs cells slots Q (F0 m (pc + 3) ls (.ref (α 34 0) :: rest))) : W p l e R s m args below meth c H locs cells slots Q (F0 m pc ls (.ref (α 20 0) :: rest)) := g_get (C := RX6) (T := TX6) (N := 51) G inlX6 rfl 15 (by decide) wm_4_20 rfl rfl rfl rfl hW hN rfl hdg kk
theorem gg_X6_52 (G : gx p s m meth c args cc nL ret RX6 nm D dA) (hW : Wd D dA 1 α H0 σ H locs) (hN : 0 < fN 20) (hdg : decode cc pc = .ok (.getfield 52, 3)) (kk : W p l e R s m args below meth c H locs cells slots Q (F0 m (pc + 3) ls (.ref (α 35 0) :: rest))) : W p l e R s m args below meth c H locs cells slots Q (F0 m pc ls (.ref (α 20 0) :: rest)) := g_get (C := RX6) (T := TX6) (N := 51) G inlX6 rfl 16 (by decide) wm_4_21 rfl rfl rfl rfl hW hN rfl hdg kk
theorem gg_X6_55 (G : gx p s m meth c args cc nL ret RX6 nm D dA) (hW : Wd D dA 1 α H0 σ H locs) (hN : 0 < fN 20) (hdg : decode cc pc = .ok (.getfield 55, 3)) (kk : W p l e R s m args below meth c H locs cells slots Q (F0 m (pc + 3) ls (.ref (α 36 0) :: rest))) : W p l e R s m args below meth c H locs cells slots Q (F0 m pc ls (.ref (α 20 0) :: rest)) := g_get (C := RX6) (T := TX6) (N := 51) G inlX6 rfl 17 (by decide) wm_4_22 rfl rfl rfl rfl hW hN rfl hdg kk
theorem gg_X6_59 (G : gx p s m meth c args cc nL ret RX6 nm D dA) (hW : Wd D dA 1 α H0 σ H locs) (hN : 0 < fN 20) (hdg : decode cc pc = .ok (.getfield 59, 3)) (kk : W p l e R s m args below meth c H locs cells slots Q (F0 m (pc + 3) ls (.ref (α 37 0) :: rest))) : W p l e R s m args below meth c H locs cells slots Q (F0 m pc ls (.ref (α 20 0) :: rest)) := g_get (C := RX6) (T := TX6) (N := 51) G inlX6 rfl 18 (by decide) wm_4_23 rfl rfl rfl rfl hW hN rfl hdg kk
theorem gg_X6_62 (G : gx p s m meth c args cc nL ret RX6 nm D dA) (hW : Wd D dA 1 α H0 σ H locs) (hN : 0 < fN 20) (hdg : decode cc pc = .ok (.getfield 62, 3)) (kk : W p l e R s m args below meth c H locs cells slots Q (F0 m (pc + 3) ls (.ref (α 38 0) :: rest))) : W p l e R s m args below meth c H locs cells slots Q (F0 m pc ls (.ref (α 20 0) :: rest)) := g_get (C := RX6) (T := TX6) (N := 51) G inlX6 rfl 19 (by decide) wm_5_0 rfl rfl rfl rfl hW hN rfl hdg kk
theorem gg_X6_65 (G : gx p s m meth c args cc nL ret RX6 nm D dA) (hW : Wd D dA 1 α H0 σ H locs) (hN : 0 < fN 20) (hdg : decode cc pc = .ok (.getfield 65, 3)) (kk : W p l e R s m args below meth c H locs cells slots Q (F0 m (pc + 3) ls (.ref (α 39 0) :: rest))) : W p l e R s m args below meth c H locs cells slots Q (F0 m pc ls (.ref (α 20 0) :: rest)) := g_get (C := RX6) (T := TX6) (N := 51) G inlX6 rfl 20 (by decide) wm_5_1 rfl rfl rfl rfl hW hN rfl hdg kk
theorem gg_X6_68 (G : gx p s m meth c args cc nL ret RX6 nm D dA) (hW : Wd D dA 1 α H0 σ H locs) (hN : 0 < fN 20) (hdg : decode cc pc = .ok (.getfield 68, 3)) (kk : W p l e R s m args below meth c H locs cells slots Q (F0 m (pc + 3) ls (.ref (α 40 0) :: rest))) : W p l e R s m args below meth c H locs cells slots Q (F0 m pc ls (.ref (α 20 0) :: rest)) := g_get (C := RX6) (T := TX6) (N := 51) G inlX6 rfl 21 (by decide) wm_5_2 rfl rfl rfl rfl hW hN rfl hdg kk
theorem gg_X6_71 (G : gx p s m meth c args cc nL ret RX6 nm D dA) (hW : Wd D dA 1 α H0 σ H locs) (hN : 0 < fN 20) (hdg : decode cc pc = .ok (.getfield 71, 3)) (kk : W p l e R s m args below meth c H locs cells slots Q (F0 m (pc + 3) ls (.ref (α 41 0) :: rest))) : W p l e R s m args below meth c H locs cells slots Q (F0 m pc ls (.ref (α 20 0) :: rest)) := g_get (C := RX6) (T := TX6) (N := 51) G inlX6 rfl 22 (by decide) wm_5_3 rfl rfl rfl rfl hW hN rfl hdg kk
theorem gg_X6_74 (G : gx p s m meth c args cc nL ret RX6 nm D dA) (hW : Wd D dA 1 α H0 σ H locs) (hN : 0 < fN 20) (hdg : decode cc pc = .ok (.getfield 74, 3)) (kk : W p l e R s m args below meth c H locs cells slots Q (F0 m (pc + 3) ls (.ref (α 42 0) :: rest))) : W p l e R s m args below meth c H locs cells slots Q (F0 m pc ls (.ref (α 20 0) :: rest)) := g_get (C := RX6) (T := TX6) (N := 51) G inlX6 rfl 23 (by decide) wm_5_4 rfl rfl rfl rfl hW hN rfl hdg kk
theorem gg_X6_77 (G : gx p s m meth c args cc nL ret RX6 nm D dA) (hW : Wd D dA 1 α H0 σ H locs) (hN : 0 < fN 20) (hdg : decode cc pc = .ok (.getfield 77, 3)) (kk : W p l e R s m args below meth c H locs cells slots Q (F0 m (pc + 3) ls (.ref (α 43 0) :: rest))) : W p l e R s m args below meth c H locs cells slots Q (F0 m pc ls (.ref (α 20 0) :: rest)) := g_get (C := RX6) (T := TX6) (N := 51) G inlX6 rfl 24 (by decide) wm_5_5 rfl rfl rfl rfl hW hN rfl hdg kk
theorem gg_X6_80 (G : gx p s m meth c args cc nL ret RX6 nm D dA) (hW : Wd D dA 1 α H0 σ H locs) (hN : 0 < fN 20) (hdg : decode cc pc = .ok (.getfield 80, 3)) (kk : W p l e R s m args below meth c H locs cells slots Q (F0 m (pc + 3) ls (.ref (α 44 0) :: rest))) : W p l e R s m args below meth c H locs cells slots Q (F0 m pc ls (.ref (α 20 0) :: rest)) := g_get (C := RX6) (T := TX6) (N := 51) G inlX6 rfl 25 (by decide) wm_5_6 rfl rfl rfl rfl hW hN rfl hdg kk
theorem gg_X6_83 (G : gx p s m meth c args cc nL ret RX6 nm D dA) (hW : Wd D dA 1 α H0 σ H locs) (hN : 0 < fN 20) (hdg : decode cc pc = .ok (.getfield 83, 3)) (kk : W p l e R s m args below meth c H locs cells slots Q (F0 m (pc + 3) ls (.ref (α 45 0) :: rest))) : W p l e R s m args below meth c H locs cells slots Q (F0 m pc ls (.ref (α 20 0) :: rest)) := g_get (C := RX6) (T := TX6) (N := 51) G inlX6 rfl 26 (by decide) wm_5_7 rfl rfl rfl rfl hW hN rfl hdg kk
theorem gg_X6_86 (G : gx p s m meth c args cc nL ret RX6 nm D dA) (hW : Wd D dA 1 α H0 σ H locs) (hN : 0 < fN 20) (hdg : decode cc pc = .ok (.getfield 86, 3)) (kk : W p l e R s m args below meth c H locs cells slots Q (F0 m (pc + 3) ls (.ref (α 46 0) :: rest))) : W p l e R s m args below meth c H locs cells slots Q (F0 m pc ls (.ref (α 20 0) :: rest)) := g_get (C := RX6) (T := TX6) (N := 51) G inlX6 rfl 27 (by decide) wm_5_8 rfl rfl rfl rfl hW hN rfl hdg kk
theorem gg_X6_89 (G : gx p s m meth c args cc nL ret RX6 nm D dA) (hW : Wd D dA 1 α H0 σ H locs) (hN : 0 < fN 20) (hdg : decode cc pc = .ok (.getfield 89, 3)) (kk : W p l e R s m args below meth c H locs cells slots Q (F0 m (pc + 3) ls (.ref (α 47 0) :: rest))) : W p l e R s m args below meth c H locs cells slots Q (F0 m pc ls (.ref (α 20 0) :: rest)) := g_get (C := RX6) (T := TX6) (N := 51) G inlX6 rfl 28 (by decide) wm_5_9 rfl rfl rfl rfl hW hN rfl hdg kk
theorem gg_X6_92 (G : gx p s m meth c args cc nL ret RX6 nm D dA) (hW : Wd D dA 1 α H0 σ H locs) (hN : 0 < fN 20) (hdg : decode cc pc = .ok (.getfield 92, 3)) (kk : W p l e R s m args below meth c H locs cells slots Q (F0 m (pc + 3) ls (.ref (α 48 0) :: rest))) : W p l e R s m args below meth c H locs cells slots Q (F0 m pc ls (.ref (α 20 0) :: rest)) := g_get (C := RX6) (T := TX6) (N := 51) G inlX6 rfl 29 (by decide) wm_5_10 rfl rfl rfl rfl hW hN rfl hdg kk
theorem gg_X6_95 (G : gx p s m meth c args cc nL ret RX6 nm D dA) (hW : Wd D dA 1 α H0 σ H locs) (hN : 0 < fN 20) (hdg : decode cc pc = .ok (.getfield 95, 3)) (kk : W p l e R s m args below meth c H locs cells slots Q (F0 m (pc + 3) ls (.ref (α 49 0) :: rest))) : W p l e R s m args below meth c H locs cells slots Q (F0 m pc ls (.ref (α 20 0) :: rest)) := g_get (C := RX6) (T := TX6) (N := 51) G inlX6 rfl 30 (by decide) wm_5_11 rfl rfl rfl rfl hW hN rfl hdg kk
theorem gg_X6_98 (G : gx p s m meth c args cc nL ret RX6 nm D dA) (hW : Wd D dA 1 α H0 σ H locs) (hN : 0 < fN 20) (hdg : decode cc pc = .ok (.getfield 98, 3)) (kk : W p l e R s m args below meth c H locs cells slots Q (F0 m (pc + 3) ls (.ref (α 50 0) :: rest))) : W p l e R s m args below meth c H locs cells slots Q (F0 m pc ls (.ref (α 20 0) :: rest)) := g_get (C := RX6) (T := TX6) (N := 51) G inlX6 rfl 31 (by decide) wm_5_12 rfl rfl rfl rfl hW hN rfl hdg kk
theorem gg_X6_101 (G : gx p s m meth c args cc nL ret RX6 nm D dA) (hW : Wd D dA 1 α H0 σ H locs) (hN : 0 < fN 20) (hdg : decode cc pc = .ok (.getfield 101, 3)) (kk : W p l e R s m args below meth c H locs cells slots Q (F0 m (pc + 3) ls (.ref (α 51 0) :: rest))) : W p l e R s m args below meth c H locs cells slots Q (F0 m pc ls (.ref (α 20 0) :: rest)) := g_get (C := RX6) (T := TX6) (N := 51) G inlX6 rfl 40 (by decide) wm_5_13 rfl rfl rfl rfl hW hN rfl hdg kk
theorem gg_X6_104 (G : gx p s m meth c args cc nL ret RX6 nm D dA) (hW : Wd D dA 1 α H0 σ H locs) (hN : 0 < fN 20) (hdg : decode cc pc = .ok (.getfield 104, 3)) (kk : W p l e R s m args below meth c H locs cells slots Q (F0 m (pc + 3) ls (.ref (α 52 0) :: rest))) : W p l e R s m args below meth c H locs cells slots Q (F0 m pc ls (.ref (α 20 0) :: rest)) := g_get (C := RX6) (T := TX6) (N := 51) G inlX6 rfl 41 (by decide) wm_5_14 rfl rfl rfl rfl hW hN rfl hdg kk
theorem gg_X6_107 (G : gx p s m meth c args cc nL ret RX6 nm D dA) (hW : Wd D dA 1 α H0 σ H locs) (hN : 0 < fN 20) (hdg : decode cc pc = .ok (.getfield 107, 3)) (kk : W p l e R s m args below meth c H locs cells slots Q (F0 m (pc + 3) ls (.ref (α 53 0) :: rest))) : W p l e R s m args below meth c H locs cells slots Q (F0 m pc ls (.ref (α 20 0) :: rest)) := g_get (C := RX6) (T := TX6) (N := 51) G inlX6 rfl 42 (by decide) wm_5_15 rfl rfl rfl rfl hW hN rfl hdg kk
theorem gg_X6_110 (G : gx p s m meth c args cc nL ret RX6 nm D dA) (hW : Wd D dA 1 α H0 σ H locs) (hN : 0 < fN 20) (hdg : decode cc pc = .ok (.getfield 110, 3)) (kk : W p l e R s m args below meth c H locs cells slots Q (F0 m (pc + 3) ls (.ref (α 54 0) :: rest))) : W p l e R s m args below meth c H locs cells slots Q (F0 m pc ls (.ref (α 20 0) :: rest)) := g_get (C := RX6) (T := TX6) (N := 51) G inlX6 rfl 45 (by decide) wm_5_16 rfl rfl rfl rfl hW hN rfl hdg kk
theorem gg_X6_113 (G : gx p s m meth c args cc nL ret RX6 nm D dA) (hW : Wd D dA 1 α H0 σ H locs) (hN : 0 < fN 20) (hdg : decode cc pc = .ok (.getfield 113, 3)) (kk : W p l e R s m args below meth c H locs cells slots Q (F0 m (pc + 3) ls (.ref (α 55 0) :: rest))) : W p l e R s m args below meth c H locs cells slots Q (F0 m pc ls (.ref (α 20 0) :: rest)) := g_get (C := RX6) (T := TX6) (N := 51) G inlX6 rfl 46 (by decide) wm_5_17 rfl rfl rfl rfl hW hN rfl hdg kk
theorem gg_X6_116 (G : gx p s m meth c args cc nL ret RX6 nm D dA) (hW : Wd D dA 1 α H0 σ H locs) (hN : 0 < fN 20) (hdg : decode cc pc = .ok (.getfield 116, 3)) (kk : W p l e R s m args below meth c H locs cells slots Q (F0 m (pc + 3) ls (.ref (α 56 0) :: rest))) : W p l e R s m args below meth c H locs cells slots Q (F0 m pc ls (.ref (α 20 0) :: rest)) := g_get (C := RX6) (T := TX6) (N := 51) G inlX6 rfl 47 (by decide) wm_5_18 rfl rfl rfl rfl hW hN rfl hdg kk
theorem gg_X6_119 (G : gx p s m meth c args cc nL ret RX6 nm D dA) (hW : Wd D dA 1 α H0 σ H locs) (hN : 0 < fN 20) (hdg : decode cc pc = .ok (.getfield 119, 3)) (kk : W p l e R s m args below meth c H locs cells slots Q (F0 m (pc + 3) ls (.ref (α 57 0) :: rest))) : W p l e R s m args below meth c H locs cells slots Q (F0 m pc ls (.ref (α 20 0) :: rest)) := g_get (C := RX6) (T := TX6) (N := 51) G inlX6 rfl 48 (by decide) wm_5_19 rfl rfl rfl rfl hW hN rfl hdg kk
theorem gg_X6_122 (G : gx p s m meth c args cc nL ret RX6 nm D dA) (hW : Wd D dA 1 α H0 σ H locs) (hN : 0 < fN 20) (hdg : decode cc pc = .ok (.getfield 122, 3)) (kk : W p l e R s m args below meth c H locs cells slots Q (F0 m (pc + 3) ls (.ref (α 58 0) :: rest))) : W p l e R s m args below meth c H locs cells slots Q (F0 m pc ls (.ref (α 20 0) :: rest)) := g_get (C := RX6) (T := TX6) (N := 51) G inlX6 rfl 49 (by decide) wm_5_20 rfl rfl rfl rfl hW hN rfl hdg kk
theorem gg_X6_125 (G : gx p s m meth c args cc nL ret RX6 nm D dA) (hW : Wd D dA 1 α H0 σ H locs) (hN : 0 < fN 20) (hdg : decode cc pc = .ok (.getfield 125, 3)) (kk : W p l e R s m args below meth c H locs cells slots Q (F0 m (pc + 3) ls (.ref (α 59 0) :: rest))) : W p l e R s m args below meth c H locs cells slots Q (F0 m pc ls (.ref (α 20 0) :: rest)) := g_get (C := RX6) (T := TX6) (N := 51) G inlX6 rfl 50 (by decide) wm_5_21 rfl rfl rfl rfl hW hN rfl hdg kk
theorem gg_X6_131 (G : gx p s m meth c args cc nL ret RX6 nm D dA) (hW : Wd D dA 1 α H0 σ H locs) (hN : 0 < fN 20) (hdg : decode cc pc = .ok (.getfield 131, 3)) (kk : W p l e R s m args below meth c H locs cells slots Q (F0 m (pc + 3) ls (.int (σ.1 20 0 0) :: rest))) : W p l e R s m args below meth c H locs cells slots Q (F0 m pc ls (.ref (α 20 0) :: rest)) := g_get (C := RX6) (T := TX6) (N := 51) G inlX6 rfl 0 (by decide) wm_6_2 rfl rfl rfl rfl hW hN rfl hdg kk
theorem gg_X6_135 (G : gx p s m meth c args cc nL ret RX6 nm D dA) (hW : Wd D dA 1 α H0 σ H locs) (hN : 0 < fN 20) (hdg : decode cc pc = .ok (.getfield 135, 3)) (kk : W p l e R s m args below meth c H locs cells slots Q (F0 m (pc + 3) ls (.int (σ.1 20 0 14) :: rest))) : W p l e R s m args below meth c H locs cells slots Q (F0 m pc ls (.ref (α 20 0) :: rest)) := g_get (C := RX6) (T := TX6) (N := 51) G inlX6 rfl 14 (by decide) wm_6_3 rfl rfl rfl rfl hW hN rfl hdg kk
theorem gg_X6_138 (G : gx p s m meth c args cc nL ret RX6 nm D dA) (hW : Wd D dA 1 α H0 σ H locs) (hN : 0 < fN 20) (hdg : decode cc pc = .ok (.getfield 138, 3)) (kk : W p l e R s m args below meth c H locs cells slots Q (F0 m (pc + 3) ls (.int (σ.1 20 0 32) :: rest))) : W p l e R s m args below meth c H locs cells slots Q (F0 m pc ls (.ref (α 20 0) :: rest)) := g_get (C := RX6) (T := TX6) (N := 51) G inlX6 rfl 32 (by decide) wm_6_4 rfl rfl rfl rfl hW hN rfl hdg kk
theorem gg_X6_141 (G : gx p s m meth c args cc nL ret RX6 nm D dA) (hW : Wd D dA 1 α H0 σ H locs) (hN : 0 < fN 20) (hdg : decode cc pc = .ok (.getfield 141, 3)) (kk : W p l e R s m args below meth c H locs cells slots Q (F0 m (pc + 3) ls (.int (σ.1 20 0 33) :: rest))) : W p l e R s m args below meth c H locs cells slots Q (F0 m pc ls (.ref (α 20 0) :: rest)) := g_get (C := RX6) (T := TX6) (N := 51) G inlX6 rfl 33 (by decide) wm_6_5 rfl rfl rfl rfl hW hN rfl hdg kk
theorem gg_X6_145 (G : gx p s m meth c args cc nL ret RX6 nm D dA) (hW : Wd D dA 1 α H0 σ H locs) (hN : 0 < fN 20) (hdg : decode cc pc = .ok (.getfield 145, 3)) (kk : W p l e R s m args below meth c H locs cells slots Q (F0 m (pc + 3) ls (.int (σ.1 20 0 34) :: rest))) : W p l e R s m args below meth c H locs cells slots Q (F0 m pc ls (.ref (α 20 0) :: rest)) := g_get (C := RX6) (T := TX6) (N := 51) G inlX6 rfl 34 (by decide) wm_6_6 rfl rfl rfl rfl hW hN rfl hdg kk
theorem gg_X6_148 (G : gx p s m meth c args cc nL ret RX6 nm D dA) (hW : Wd D dA 1 α H0 σ H locs) (hN : 0 < fN 20) (hdg : decode cc pc = .ok (.getfield 148, 3)) (kk : W p l e R s m args below meth c H locs cells slots Q (F0 m (pc + 3) ls (.int (σ.1 20 0 35) :: rest))) : W p l e R s m args below meth c H locs cells slots Q (F0 m pc ls (.ref (α 20 0) :: rest)) := g_get (C := RX6) (T := TX6) (N := 51) G inlX6 rfl 35 (by decide) wm_6_7 rfl rfl rfl rfl hW hN rfl hdg kk
theorem gg_X6_151 (G : gx p s m meth c args cc nL ret RX6 nm D dA) (hW : Wd D dA 1 α H0 σ H locs) (hN : 0 < fN 20) (hdg : decode cc pc = .ok (.getfield 151, 3)) (kk : W p l e R s m args below meth c H locs cells slots Q (F0 m (pc + 3) ls (.int (σ.1 20 0 36) :: rest))) : W p l e R s m args below meth c H locs cells slots Q (F0 m pc ls (.ref (α 20 0) :: rest)) := g_get (C := RX6) (T := TX6) (N := 51) G inlX6 rfl 36 (by decide) wm_6_8 rfl rfl rfl rfl hW hN rfl hdg kk
theorem gg_X6_154 (G : gx p s m meth c args cc nL ret RX6 nm D dA) (hW : Wd D dA 1 α H0 σ H locs) (hN : 0 < fN 20) (hdg : decode cc pc = .ok (.getfield 154, 3)) (kk : W p l e R s m args below meth c H locs cells slots Q (F0 m (pc + 3) ls (.int (σ.1 20 0 37) :: rest))) : W p l e R s m args below meth c H locs cells slots Q (F0 m pc ls (.ref (α 20 0) :: rest)) := g_get (C := RX6) (T := TX6) (N := 51) G inlX6 rfl 37 (by decide) wm_6_9 rfl rfl rfl rfl hW hN rfl hdg kk
theorem gg_X6_157 (G : gx p s m meth c args cc nL ret RX6 nm D dA) (hW : Wd D dA 1 α H0 σ H locs) (hN : 0 < fN 20) (hdg : decode cc pc = .ok (.getfield 157, 3)) (kk : W p l e R s m args below meth c H locs cells slots Q (F0 m (pc + 3) ls (.int (σ.1 20 0 38) :: rest))) : W p l e R s m args below meth c H locs cells slots Q (F0 m pc ls (.ref (α 20 0) :: rest)) := g_get (C := RX6) (T := TX6) (N := 51) G inlX6 rfl 38 (by decide) wm_6_10 rfl rfl rfl rfl hW hN rfl hdg kk
theorem gg_X6_160 (G : gx p s m meth c args cc nL ret RX6 nm D dA) (hW : Wd D dA 1 α H0 σ H locs) (hN : 0 < fN 20) (hdg : decode cc pc = .ok (.getfield 160, 3)) (kk : W p l e R s m args below meth c H locs cells slots Q (F0 m (pc + 3) ls (.int (σ.1 20 0 39) :: rest))) : W p l e R s m args below meth c H locs cells slots Q (F0 m pc ls (.ref (α 20 0) :: rest)) := g_get (C := RX6) (T := TX6) (N := 51) G inlX6 rfl 39 (by decide) wm_6_11 rfl rfl rfl rfl hW hN rfl hdg kk
theorem gg_X6_163 (G : gx p s m meth c args cc nL ret RX6 nm D dA) (hW : Wd D dA 1 α H0 σ H locs) (hN : 0 < fN 20) (hdg : decode cc pc = .ok (.getfield 163, 3)) (kk : W p l e R s m args below meth c H locs cells slots Q (F0 m (pc + 3) ls (.int (σ.1 20 0 43) :: rest))) : W p l e R s m args below meth c H locs cells slots Q (F0 m pc ls (.ref (α 20 0) :: rest)) := g_get (C := RX6) (T := TX6) (N := 51) G inlX6 rfl 43 (by decide) wm_6_12 rfl rfl rfl rfl hW hN rfl hdg kk
theorem gg_X6_166 (G : gx p s m meth c args cc nL ret RX6 nm D dA) (hW : Wd D dA 1 α H0 σ H locs) (hN : 0 < fN 20) (hdg : decode cc pc = .ok (.getfield 166, 3)) (kk : W p l e R s m args below meth c H locs cells slots Q (F0 m (pc + 3) ls (.int (σ.1 20 0 44) :: rest))) : W p l e R s m args below meth c H locs cells slots Q (F0 m pc ls (.ref (α 20 0) :: rest)) := g_get (C := RX6) (T := TX6) (N := 51) G inlX6 rfl 44 (by decide) wm_6_13 rfl rfl rfl rfl hW hN rfl hdg kk
theorem pp_X5_45 (G : gx p s m meth c args cc nL ret RX5 nm D dA) (hW : Wd D dA 0 α H0 σ H locs) (hN : 0 < fN 0) {v : Int32} (h : sZ 0 11 σ 0 v = some σ') (hdg : decode cc pc = .ok (.putfield 45, 3)) (kk : ∀ (H1 : Heap) (locs1 : List Loc), Wd D dA 0 α H0 σ' H1 locs1 → W p l e R s m args below meth c H1 locs1 cells slots Q (F0 m (pc + 3) ls rest)) : W p l e R s m args below meth c H locs cells slots Q (F0 m pc ls (.int v :: .ref (α 0 0) :: rest)) := by
  obtain ⟨hz, h⟩ := o_i h
  subst h
  exact g_put (C := RX5) (T := TX5) (N := 13) G inlX5 tyX5 tyX5_ok nmX5 rfl 11 (by decide) wm_4_1 rfl rfl (ty := .boolean) (by decide +kernel) (by rcases hz with rfl | rfl <;> rfl) (by rcases hz with rfl | rfl <;> rfl) rfl rfl rfl hW hN ⟨fun ty ψ j n q => sm_v_I ty q, show (Value.int ((wI σ 0 0 11 v).1 0 0 11)) = Value.int v by simp [wI, sm_up]⟩ hdg kk
theorem pp_X5_49 (G : gx p s m meth c args cc nL ret RX5 nm D dA) (hW : Wd D dA 0 α H0 σ H locs) (hN : 0 < fN 1) {v : Int32} (h : sI 1 2 σ 0 v = some σ') (hdg : decode cc pc = .ok (.putfield 49, 3)) (kk : ∀ (H1 : Heap) (locs1 : List Loc), Wd D dA 0 α H0 σ' H1 locs1 → W p l e R s m args below meth c H1 locs1 cells slots Q (F0 m (pc + 3) ls rest)) : W p l e R s m args below meth c H locs cells slots Q (F0 m pc ls (.int v :: .ref (α 1 0) :: rest)) := by
  cases h
  exact g_put (C := RX2) (T := TX2) (N := 4) G inlX2 tyX2 tyX2_ok nmX2 rfl 2 (by decide) wm_3_15 rfl rfl (ty := .int) (by decide +kernel) rfl rfl rfl rfl rfl hW hN ⟨fun ty ψ j n q => sm_v_I ty q, show (Value.int ((wI σ 1 0 2 v).1 1 0 2)) = Value.int v by simp [wI, sm_up]⟩ hdg kk
theorem pp_X5_69 (G : gx p s m meth c args cc nL ret RX5 nm D dA) (hW : Wd D dA 0 α H0 σ H locs) (hN : 0 < fN 1) {v : Int32} (h : sI 1 3 σ 0 v = some σ') (hdg : decode cc pc = .ok (.putfield 69, 3)) (kk : ∀ (H1 : Heap) (locs1 : List Loc), Wd D dA 0 α H0 σ' H1 locs1 → W p l e R s m args below meth c H1 locs1 cells slots Q (F0 m (pc + 3) ls rest)) : W p l e R s m args below meth c H locs cells slots Q (F0 m pc ls (.int v :: .ref (α 1 0) :: rest)) := by
  cases h
  exact g_put (C := RX2) (T := TX2) (N := 4) G inlX2 tyX2 tyX2_ok nmX2 rfl 3 (by decide) wm_3_16 rfl rfl (ty := .int) (by decide +kernel) rfl rfl rfl rfl rfl hW hN ⟨fun ty ψ j n q => sm_v_I ty q, show (Value.int ((wI σ 1 0 3 v).1 1 0 3)) = Value.int v by simp [wI, sm_up]⟩ hdg kk
theorem pp_X5_76 (G : gx p s m meth c args cc nL ret RX5 nm D dA) (hW : Wd D dA 0 α H0 σ H locs) {i : Nat} (hN : i < fN 4) {v : Int32} (h : sI 4 6 σ i v = some σ') (hdg : decode cc pc = .ok (.putfield 76, 3)) (kk : ∀ (H1 : Heap) (locs1 : List Loc), Wd D dA 0 α H0 σ' H1 locs1 → W p l e R s m args below meth c H1 locs1 cells slots Q (F0 m (pc + 3) ls rest)) : W p l e R s m args below meth c H locs cells slots Q (F0 m pc ls (.int v :: .ref (α 4 i) :: rest)) := by
  cases h
  exact g_put (C := RX4) (T := TX4) (N := 17) G inlX4 tyX4 tyX4_ok nmX4 rfl 6 (by decide) wm_10_14 rfl rfl (ty := .int) (by decide +kernel) rfl rfl rfl rfl rfl hW hN ⟨fun ty ψ j n q => sm_v_I ty q, show (Value.int ((wI σ 4 i 6 v).1 4 i 6)) = Value.int v by simp [wI, sm_up]⟩ hdg kk
theorem pp_X5_79 (G : gx p s m meth c args cc nL ret RX5 nm D dA) (hW : Wd D dA 0 α H0 σ H locs) (hN : 0 < fN 0) {v : Int32} (h : sI 0 4 σ 0 v = some σ') (hdg : decode cc pc = .ok (.putfield 79, 3)) (kk : ∀ (H1 : Heap) (locs1 : List Loc), Wd D dA 0 α H0 σ' H1 locs1 → W p l e R s m args below meth c H1 locs1 cells slots Q (F0 m (pc + 3) ls rest)) : W p l e R s m args below meth c H locs cells slots Q (F0 m pc ls (.int v :: .ref (α 0 0) :: rest)) := by
  cases h
  exact g_put (C := RX5) (T := TX5) (N := 13) G inlX5 tyX5 tyX5_ok nmX5 rfl 4 (by decide) wm_3_18 rfl rfl (ty := .int) (by decide +kernel) rfl rfl rfl rfl rfl hW hN ⟨fun ty ψ j n q => sm_v_I ty q, show (Value.int ((wI σ 0 0 4 v).1 0 0 4)) = Value.int v by simp [wI, sm_up]⟩ hdg kk
theorem pp_X5_82 (G : gx p s m meth c args cc nL ret RX5 nm D dA) (hW : Wd D dA 0 α H0 σ H locs) (hN : 0 < fN 0) {v : Int32} (h : sZ 0 5 σ 0 v = some σ') (hdg : decode cc pc = .ok (.putfield 82, 3)) (kk : ∀ (H1 : Heap) (locs1 : List Loc), Wd D dA 0 α H0 σ' H1 locs1 → W p l e R s m args below meth c H1 locs1 cells slots Q (F0 m (pc + 3) ls rest)) : W p l e R s m args below meth c H locs cells slots Q (F0 m pc ls (.int v :: .ref (α 0 0) :: rest)) := by
  obtain ⟨hz, h⟩ := o_i h
  subst h
  exact g_put (C := RX5) (T := TX5) (N := 13) G inlX5 tyX5 tyX5_ok nmX5 rfl 5 (by decide) wm_3_19 rfl rfl (ty := .boolean) (by decide +kernel) (by rcases hz with rfl | rfl <;> rfl) (by rcases hz with rfl | rfl <;> rfl) rfl rfl rfl hW hN ⟨fun ty ψ j n q => sm_v_I ty q, show (Value.int ((wI σ 0 0 5 v).1 0 0 5)) = Value.int v by simp [wI, sm_up]⟩ hdg kk
theorem pp_X5_85 (G : gx p s m meth c args cc nL ret RX5 nm D dA) (hW : Wd D dA 0 α H0 σ H locs) (hN : 0 < fN 0) {v : Int32} (h : sZ 0 12 σ 0 v = some σ') (hdg : decode cc pc = .ok (.putfield 85, 3)) (kk : ∀ (H1 : Heap) (locs1 : List Loc), Wd D dA 0 α H0 σ' H1 locs1 → W p l e R s m args below meth c H1 locs1 cells slots Q (F0 m (pc + 3) ls rest)) : W p l e R s m args below meth c H locs cells slots Q (F0 m pc ls (.int v :: .ref (α 0 0) :: rest)) := by
  obtain ⟨hz, h⟩ := o_i h
  subst h
  exact g_put (C := RX5) (T := TX5) (N := 13) G inlX5 tyX5 tyX5_ok nmX5 rfl 12 (by decide) wm_4_2 rfl rfl (ty := .boolean) (by decide +kernel) (by rcases hz with rfl | rfl <;> rfl) (by rcases hz with rfl | rfl <;> rfl) rfl rfl rfl hW hN ⟨fun ty ψ j n q => sm_v_I ty q, show (Value.int ((wI σ 0 0 12 v).1 0 0 12)) = Value.int v by simp [wI, sm_up]⟩ hdg kk
theorem pp_X5_88 (G : gx p s m meth c args cc nL ret RX5 nm D dA) (hW : Wd D dA 0 α H0 σ H locs) (hN : 0 < fN 0) {v : Int32} (h : sI 0 6 σ 0 v = some σ') (hdg : decode cc pc = .ok (.putfield 88, 3)) (kk : ∀ (H1 : Heap) (locs1 : List Loc), Wd D dA 0 α H0 σ' H1 locs1 → W p l e R s m args below meth c H1 locs1 cells slots Q (F0 m (pc + 3) ls rest)) : W p l e R s m args below meth c H locs cells slots Q (F0 m pc ls (.int v :: .ref (α 0 0) :: rest)) := by
  cases h
  exact g_put (C := RX5) (T := TX5) (N := 13) G inlX5 tyX5 tyX5_ok nmX5 rfl 6 (by decide) wm_3_20 rfl rfl (ty := .int) (by decide +kernel) rfl rfl rfl rfl rfl hW hN ⟨fun ty ψ j n q => sm_v_I ty q, show (Value.int ((wI σ 0 0 6 v).1 0 0 6)) = Value.int v by simp [wI, sm_up]⟩ hdg kk
theorem pp_X5_110 (G : gx p s m meth c args cc nL ret RX5 nm D dA) (hW : Wd D dA 0 α H0 σ H locs) (hN : 0 < fN 0) {v : Int32} (h : sI 0 9 σ 0 v = some σ') (hdg : decode cc pc = .ok (.putfield 110, 3)) (kk : ∀ (H1 : Heap) (locs1 : List Loc), Wd D dA 0 α H0 σ' H1 locs1 → W p l e R s m args below meth c H1 locs1 cells slots Q (F0 m (pc + 3) ls rest)) : W p l e R s m args below meth c H locs cells slots Q (F0 m pc ls (.int v :: .ref (α 0 0) :: rest)) := by
  cases h
  exact g_put (C := RX5) (T := TX5) (N := 13) G inlX5 tyX5 tyX5_ok nmX5 rfl 9 (by decide) wm_3_23 rfl rfl (ty := .int) (by decide +kernel) rfl rfl rfl rfl rfl hW hN ⟨fun ty ψ j n q => sm_v_I ty q, show (Value.int ((wI σ 0 0 9 v).1 0 0 9)) = Value.int v by simp [wI, sm_up]⟩ hdg kk
theorem pp_X5_178 (G : gx p s m meth c args cc nL ret RX5 nm D dA) (hW : Wd D dA 0 α H0 σ H locs) (hN : 0 < fN 0) {v : Int32} (h : sI 0 8 σ 0 v = some σ') (hdg : decode cc pc = .ok (.putfield 178, 3)) (kk : ∀ (H1 : Heap) (locs1 : List Loc), Wd D dA 0 α H0 σ' H1 locs1 → W p l e R s m args below meth c H1 locs1 cells slots Q (F0 m (pc + 3) ls rest)) : W p l e R s m args below meth c H locs cells slots Q (F0 m pc ls (.int v :: .ref (α 0 0) :: rest)) := by
  cases h
  exact g_put (C := RX5) (T := TX5) (N := 13) G inlX5 tyX5 tyX5_ok nmX5 rfl 8 (by decide) wm_3_22 rfl rfl (ty := .int) (by decide +kernel) rfl rfl rfl rfl rfl hW hN ⟨fun ty ψ j n q => sm_v_I ty q, show (Value.int ((wI σ 0 0 8 v).1 0 0 8)) = Value.int v by simp [wI, sm_up]⟩ hdg kk
theorem pp_X5_184 (G : gx p s m meth c args cc nL ret RX5 nm D dA) (hW : Wd D dA 0 α H0 σ H locs) {i : Nat} (hN : i < fN 4) {v : Int32} (h : sI 4 4 σ i v = some σ') (hdg : decode cc pc = .ok (.putfield 184, 3)) (kk : ∀ (H1 : Heap) (locs1 : List Loc), Wd D dA 0 α H0 σ' H1 locs1 → W p l e R s m args below meth c H1 locs1 cells slots Q (F0 m (pc + 3) ls rest)) : W p l e R s m args below meth c H locs cells slots Q (F0 m pc ls (.int v :: .ref (α 4 i) :: rest)) := by
  cases h
  exact g_put (C := RX4) (T := TX4) (N := 17) G inlX4 tyX4 tyX4_ok nmX4 rfl 4 (by decide) wm_24_1 rfl rfl (ty := .int) (by decide +kernel) rfl rfl rfl rfl rfl hW hN ⟨fun ty ψ j n q => sm_v_I ty q, show (Value.int ((wI σ 4 i 4 v).1 4 i 4)) = Value.int v by simp [wI, sm_up]⟩ hdg kk
theorem pp_X5_187 (G : gx p s m meth c args cc nL ret RX5 nm D dA) (hW : Wd D dA 0 α H0 σ H locs) {i : Nat} (hN : i < fN 4) {v : Int32} (h : sI 4 11 σ i v = some σ') (hdg : decode cc pc = .ok (.putfield 187, 3)) (kk : ∀ (H1 : Heap) (locs1 : List Loc), Wd D dA 0 α H0 σ' H1 locs1 → W p l e R s m args below meth c H1 locs1 cells slots Q (F0 m (pc + 3) ls rest)) : W p l e R s m args below meth c H locs cells slots Q (F0 m pc ls (.int v :: .ref (α 4 i) :: rest)) := by
  cases h
  exact g_put (C := RX4) (T := TX4) (N := 17) G inlX4 tyX4 tyX4_ok nmX4 rfl 11 (by decide) wm_18_9 rfl rfl (ty := .int) (by decide +kernel) rfl rfl rfl rfl rfl hW hN ⟨fun ty ψ j n q => sm_v_I ty q, show (Value.int ((wI σ 4 i 11 v).1 4 i 11)) = Value.int v by simp [wI, sm_up]⟩ hdg kk
theorem pp_X5_190 (G : gx p s m meth c args cc nL ret RX5 nm D dA) (hW : Wd D dA 0 α H0 σ H locs) {i : Nat} (hN : i < fN 4) {v : Int32} (h : sI 4 12 σ i v = some σ') (hdg : decode cc pc = .ok (.putfield 190, 3)) (kk : ∀ (H1 : Heap) (locs1 : List Loc), Wd D dA 0 α H0 σ' H1 locs1 → W p l e R s m args below meth c H1 locs1 cells slots Q (F0 m (pc + 3) ls rest)) : W p l e R s m args below meth c H locs cells slots Q (F0 m pc ls (.int v :: .ref (α 4 i) :: rest)) := by
  cases h
  exact g_put (C := RX4) (T := TX4) (N := 17) G inlX4 tyX4 tyX4_ok nmX4 rfl 12 (by decide) wm_19_0 rfl rfl (ty := .int) (by decide +kernel) rfl rfl rfl rfl rfl hW hN ⟨fun ty ψ j n q => sm_v_I ty q, show (Value.int ((wI σ 4 i 12 v).1 4 i 12)) = Value.int v by simp [wI, sm_up]⟩ hdg kk
theorem pp_X5_196 (G : gx p s m meth c args cc nL ret RX5 nm D dA) (hW : Wd D dA 0 α H0 σ H locs) {i : Nat} (hN : i < fN 4) {v : Int32} (h : sI 4 8 σ i v = some σ') (hdg : decode cc pc = .ok (.putfield 196, 3)) (kk : ∀ (H1 : Heap) (locs1 : List Loc), Wd D dA 0 α H0 σ' H1 locs1 → W p l e R s m args below meth c H1 locs1 cells slots Q (F0 m (pc + 3) ls rest)) : W p l e R s m args below meth c H locs cells slots Q (F0 m pc ls (.int v :: .ref (α 4 i) :: rest)) := by
  cases h
  exact g_put (C := RX4) (T := TX4) (N := 17) G inlX4 tyX4 tyX4_ok nmX4 rfl 8 (by decide) wm_15_14 rfl rfl (ty := .int) (by decide +kernel) rfl rfl rfl rfl rfl hW hN ⟨fun ty ψ j n q => sm_v_I ty q, show (Value.int ((wI σ 4 i 8 v).1 4 i 8)) = Value.int v by simp [wI, sm_up]⟩ hdg kk
theorem pp_X5_237 (G : gx p s m meth c args cc nL ret RX5 nm D dA) (hW : Wd D dA 0 α H0 σ H locs) (hN : 0 < fN 3) {v : Int32} (h : sI 3 3 σ 0 v = some σ') (hdg : decode cc pc = .ok (.putfield 237, 3)) (kk : ∀ (H1 : Heap) (locs1 : List Loc), Wd D dA 0 α H0 σ' H1 locs1 → W p l e R s m args below meth c H1 locs1 cells slots Q (F0 m (pc + 3) ls rest)) : W p l e R s m args below meth c H locs cells slots Q (F0 m pc ls (.int v :: .ref (α 3 0) :: rest)) := by
  cases h
  exact g_put (C := RX0) (T := TX0) (N := 4) G inlX0 tyX0 tyX0_ok nmX0 rfl 3 (by decide) wm_3_17 rfl rfl (ty := .int) (by decide +kernel) rfl rfl rfl rfl rfl hW hN ⟨fun ty ψ j n q => sm_v_I ty q, show (Value.int ((wI σ 3 0 3 v).1 3 0 3)) = Value.int v by simp [wI, sm_up]⟩ hdg kk
theorem pp_X5_251 (G : gx p s m meth c args cc nL ret RX5 nm D dA) (hW : Wd D dA 0 α H0 σ H locs) (hN : 0 < fN 0) {v : Int32} (h : sI 0 10 σ 0 v = some σ') (hdg : decode cc pc = .ok (.putfield 251, 3)) (kk : ∀ (H1 : Heap) (locs1 : List Loc), Wd D dA 0 α H0 σ' H1 locs1 → W p l e R s m args below meth c H1 locs1 cells slots Q (F0 m (pc + 3) ls rest)) : W p l e R s m args below meth c H locs cells slots Q (F0 m pc ls (.int v :: .ref (α 0 0) :: rest)) := by
  cases h
  exact g_put (C := RX5) (T := TX5) (N := 13) G inlX5 tyX5 tyX5_ok nmX5 rfl 10 (by decide) wm_4_0 rfl rfl (ty := .int) (by decide +kernel) rfl rfl rfl rfl rfl hW hN ⟨fun ty ψ j n q => sm_v_I ty q, show (Value.int ((wI σ 0 0 10 v).1 0 0 10)) = Value.int v by simp [wI, sm_up]⟩ hdg kk
theorem pp_X5_254 (G : gx p s m meth c args cc nL ret RX5 nm D dA) (hW : Wd D dA 0 α H0 σ H locs) (hN : 0 < fN 0) {v : Int64} (h : sJ 0 7 σ 0 v = some σ') (hdg : decode cc pc = .ok (.putfield 254, 3)) (kk : ∀ (H1 : Heap) (locs1 : List Loc), Wd D dA 0 α H0 σ' H1 locs1 → W p l e R s m args below meth c H1 locs1 cells slots Q (F0 m (pc + 3) ls rest)) : W p l e R s m args below meth c H locs cells slots Q (F0 m pc ls (.long v :: .ref (α 0 0) :: rest)) := by
  cases h
  exact g_put (C := RX5) (T := TX5) (N := 13) G inlX5 tyX5 tyX5_ok nmX5 rfl 7 (by decide) wm_3_21 rfl rfl (ty := .long) (by decide +kernel) rfl rfl rfl rfl rfl hW hN ⟨fun ty ψ j n q => sm_v_J ty q, show (Value.long ((wJ σ 0 0 7 v).2 0 0 7)) = Value.long v by simp [wJ, sm_up]⟩ hdg kk
theorem pp_X0_21 (G : gx p s m meth c args cc nL ret RX0 nm D dA) (hW : Wd D dA 0 α H0 σ H locs) (hN : 0 < fN 3) {v : Int32} (h : sI 3 3 σ 0 v = some σ') (hdg : decode cc pc = .ok (.putfield 21, 3)) (kk : ∀ (H1 : Heap) (locs1 : List Loc), Wd D dA 0 α H0 σ' H1 locs1 → W p l e R s m args below meth c H1 locs1 cells slots Q (F0 m (pc + 3) ls rest)) : W p l e R s m args below meth c H locs cells slots Q (F0 m pc ls (.int v :: .ref (α 3 0) :: rest)) := by
  cases h
  exact g_put (C := RX0) (T := TX0) (N := 4) G inlX0 tyX0 tyX0_ok nmX0 rfl 3 (by decide) wm_15_21 rfl rfl (ty := .int) (by decide +kernel) rfl rfl rfl rfl rfl hW hN ⟨fun ty ψ j n q => sm_v_I ty q, show (Value.int ((wI σ 3 0 3 v).1 3 0 3)) = Value.int v by simp [wI, sm_up]⟩ hdg kk
theorem pp_X1_15 (G : gx p s m meth c args cc nL ret RX1 nm D dA) (hW : Wd D dA 0 α H0 σ H locs) {i : Nat} (hN : i < fN 5) {v : Int32} (h : sI 5 1 σ i v = some σ') (hdg : decode cc pc = .ok (.putfield 15, 3)) (kk : ∀ (H1 : Heap) (locs1 : List Loc), Wd D dA 0 α H0 σ' H1 locs1 → W p l e R s m args below meth c H1 locs1 cells slots Q (F0 m (pc + 3) ls rest)) : W p l e R s m args below meth c H locs cells slots Q (F0 m pc ls (.int v :: .ref (α 5 i) :: rest)) := by
  cases h
  exact g_put (C := RX1) (T := TX1) (N := 12) G inlX1 tyX1 tyX1_ok nmX1 rfl 1 (by decide) wm_9_11 rfl rfl (ty := .int) (by decide +kernel) rfl rfl rfl rfl rfl hW hN ⟨fun ty ψ j n q => sm_v_I ty q, show (Value.int ((wI σ 5 i 1 v).1 5 i 1)) = Value.int v by simp [wI, sm_up]⟩ hdg kk
theorem pp_X1_19 (G : gx p s m meth c args cc nL ret RX1 nm D dA) (hW : Wd D dA 0 α H0 σ H locs) {i : Nat} (hN : i < fN 5) {v : Int32} (h : sI 5 2 σ i v = some σ') (hdg : decode cc pc = .ok (.putfield 19, 3)) (kk : ∀ (H1 : Heap) (locs1 : List Loc), Wd D dA 0 α H0 σ' H1 locs1 → W p l e R s m args below meth c H1 locs1 cells slots Q (F0 m (pc + 3) ls rest)) : W p l e R s m args below meth c H locs cells slots Q (F0 m pc ls (.int v :: .ref (α 5 i) :: rest)) := by
  cases h
  exact g_put (C := RX1) (T := TX1) (N := 12) G inlX1 tyX1 tyX1_ok nmX1 rfl 2 (by decide) wm_9_12 rfl rfl (ty := .int) (by decide +kernel) rfl rfl rfl rfl rfl hW hN ⟨fun ty ψ j n q => sm_v_I ty q, show (Value.int ((wI σ 5 i 2 v).1 5 i 2)) = Value.int v by simp [wI, sm_up]⟩ hdg kk
theorem pp_X1_22 (G : gx p s m meth c args cc nL ret RX1 nm D dA) (hW : Wd D dA 0 α H0 σ H locs) {i : Nat} (hN : i < fN 5) {v : Int32} (h : sZ 5 3 σ i v = some σ') (hdg : decode cc pc = .ok (.putfield 22, 3)) (kk : ∀ (H1 : Heap) (locs1 : List Loc), Wd D dA 0 α H0 σ' H1 locs1 → W p l e R s m args below meth c H1 locs1 cells slots Q (F0 m (pc + 3) ls rest)) : W p l e R s m args below meth c H locs cells slots Q (F0 m pc ls (.int v :: .ref (α 5 i) :: rest)) := by
  obtain ⟨hz, h⟩ := o_i h
  subst h
  exact g_put (C := RX1) (T := TX1) (N := 12) G inlX1 tyX1 tyX1_ok nmX1 rfl 3 (by decide) wm_9_13 rfl rfl (ty := .boolean) (by decide +kernel) (by rcases hz with rfl | rfl <;> rfl) (by rcases hz with rfl | rfl <;> rfl) rfl rfl rfl hW hN ⟨fun ty ψ j n q => sm_v_I ty q, show (Value.int ((wI σ 5 i 3 v).1 5 i 3)) = Value.int v by simp [wI, sm_up]⟩ hdg kk
theorem pp_X1_26 (G : gx p s m meth c args cc nL ret RX1 nm D dA) (hW : Wd D dA 0 α H0 σ H locs) {i : Nat} (hN : i < fN 5) {v : Int32} (h : sI 5 4 σ i v = some σ') (hdg : decode cc pc = .ok (.putfield 26, 3)) (kk : ∀ (H1 : Heap) (locs1 : List Loc), Wd D dA 0 α H0 σ' H1 locs1 → W p l e R s m args below meth c H1 locs1 cells slots Q (F0 m (pc + 3) ls rest)) : W p l e R s m args below meth c H locs cells slots Q (F0 m pc ls (.int v :: .ref (α 5 i) :: rest)) := by
  cases h
  exact g_put (C := RX1) (T := TX1) (N := 12) G inlX1 tyX1 tyX1_ok nmX1 rfl 4 (by decide) wm_9_14 rfl rfl (ty := .int) (by decide +kernel) rfl rfl rfl rfl rfl hW hN ⟨fun ty ψ j n q => sm_v_I ty q, show (Value.int ((wI σ 5 i 4 v).1 5 i 4)) = Value.int v by simp [wI, sm_up]⟩ hdg kk
theorem pp_X1_29 (G : gx p s m meth c args cc nL ret RX1 nm D dA) (hW : Wd D dA 0 α H0 σ H locs) {i : Nat} (hN : i < fN 5) {v : Int32} (h : sI 5 5 σ i v = some σ') (hdg : decode cc pc = .ok (.putfield 29, 3)) (kk : ∀ (H1 : Heap) (locs1 : List Loc), Wd D dA 0 α H0 σ' H1 locs1 → W p l e R s m args below meth c H1 locs1 cells slots Q (F0 m (pc + 3) ls rest)) : W p l e R s m args below meth c H locs cells slots Q (F0 m pc ls (.int v :: .ref (α 5 i) :: rest)) := by
  cases h
  exact g_put (C := RX1) (T := TX1) (N := 12) G inlX1 tyX1 tyX1_ok nmX1 rfl 5 (by decide) wm_9_15 rfl rfl (ty := .int) (by decide +kernel) rfl rfl rfl rfl rfl hW hN ⟨fun ty ψ j n q => sm_v_I ty q, show (Value.int ((wI σ 5 i 5 v).1 5 i 5)) = Value.int v by simp [wI, sm_up]⟩ hdg kk
theorem pp_X1_32 (G : gx p s m meth c args cc nL ret RX1 nm D dA) (hW : Wd D dA 0 α H0 σ H locs) {i : Nat} (hN : i < fN 5) {v : Int32} (h : sI 5 6 σ i v = some σ') (hdg : decode cc pc = .ok (.putfield 32, 3)) (kk : ∀ (H1 : Heap) (locs1 : List Loc), Wd D dA 0 α H0 σ' H1 locs1 → W p l e R s m args below meth c H1 locs1 cells slots Q (F0 m (pc + 3) ls rest)) : W p l e R s m args below meth c H locs cells slots Q (F0 m pc ls (.int v :: .ref (α 5 i) :: rest)) := by
  cases h
  exact g_put (C := RX1) (T := TX1) (N := 12) G inlX1 tyX1 tyX1_ok nmX1 rfl 6 (by decide) wm_9_16 rfl rfl (ty := .int) (by decide +kernel) rfl rfl rfl rfl rfl hW hN ⟨fun ty ψ j n q => sm_v_I ty q, show (Value.int ((wI σ 5 i 6 v).1 5 i 6)) = Value.int v by simp [wI, sm_up]⟩ hdg kk
theorem pp_X1_35 (G : gx p s m meth c args cc nL ret RX1 nm D dA) (hW : Wd D dA 0 α H0 σ H locs) {i : Nat} (hN : i < fN 5) {v : Int32} (h : sI 5 7 σ i v = some σ') (hdg : decode cc pc = .ok (.putfield 35, 3)) (kk : ∀ (H1 : Heap) (locs1 : List Loc), Wd D dA 0 α H0 σ' H1 locs1 → W p l e R s m args below meth c H1 locs1 cells slots Q (F0 m (pc + 3) ls rest)) : W p l e R s m args below meth c H locs cells slots Q (F0 m pc ls (.int v :: .ref (α 5 i) :: rest)) := by
  cases h
  exact g_put (C := RX1) (T := TX1) (N := 12) G inlX1 tyX1 tyX1_ok nmX1 rfl 7 (by decide) wm_9_17 rfl rfl (ty := .int) (by decide +kernel) rfl rfl rfl rfl rfl hW hN ⟨fun ty ψ j n q => sm_v_I ty q, show (Value.int ((wI σ 5 i 7 v).1 5 i 7)) = Value.int v by simp [wI, sm_up]⟩ hdg kk
theorem pp_X1_41 (G : gx p s m meth c args cc nL ret RX1 nm D dA) (hW : Wd D dA 0 α H0 σ H locs) {i : Nat} (hN : i < fN 5) {v : Int32} (h : sI 5 9 σ i v = some σ') (hdg : decode cc pc = .ok (.putfield 41, 3)) (kk : ∀ (H1 : Heap) (locs1 : List Loc), Wd D dA 0 α H0 σ' H1 locs1 → W p l e R s m args below meth c H1 locs1 cells slots Q (F0 m (pc + 3) ls rest)) : W p l e R s m args below meth c H locs cells slots Q (F0 m pc ls (.int v :: .ref (α 5 i) :: rest)) := by
  cases h
  exact g_put (C := RX1) (T := TX1) (N := 12) G inlX1 tyX1 tyX1_ok nmX1 rfl 9 (by decide) wm_9_22 rfl rfl (ty := .int) (by decide +kernel) rfl rfl rfl rfl rfl hW hN ⟨fun ty ψ j n q => sm_v_I ty q, show (Value.int ((wI σ 5 i 9 v).1 5 i 9)) = Value.int v by simp [wI, sm_up]⟩ hdg kk
theorem pp_X1_44 (G : gx p s m meth c args cc nL ret RX1 nm D dA) (hW : Wd D dA 0 α H0 σ H locs) {i : Nat} (hN : i < fN 5) {v : Int32} (h : sI 5 10 σ i v = some σ') (hdg : decode cc pc = .ok (.putfield 44, 3)) (kk : ∀ (H1 : Heap) (locs1 : List Loc), Wd D dA 0 α H0 σ' H1 locs1 → W p l e R s m args below meth c H1 locs1 cells slots Q (F0 m (pc + 3) ls rest)) : W p l e R s m args below meth c H locs cells slots Q (F0 m pc ls (.int v :: .ref (α 5 i) :: rest)) := by
  cases h
  exact g_put (C := RX1) (T := TX1) (N := 12) G inlX1 tyX1 tyX1_ok nmX1 rfl 10 (by decide) wm_9_23 rfl rfl (ty := .int) (by decide +kernel) rfl rfl rfl rfl rfl hW hN ⟨fun ty ψ j n q => sm_v_I ty q, show (Value.int ((wI σ 5 i 10 v).1 5 i 10)) = Value.int v by simp [wI, sm_up]⟩ hdg kk
theorem pp_X1_47 (G : gx p s m meth c args cc nL ret RX1 nm D dA) (hW : Wd D dA 0 α H0 σ H locs) {i : Nat} (hN : i < fN 5) {v : Int32} (h : sI 5 11 σ i v = some σ') (hdg : decode cc pc = .ok (.putfield 47, 3)) (kk : ∀ (H1 : Heap) (locs1 : List Loc), Wd D dA 0 α H0 σ' H1 locs1 → W p l e R s m args below meth c H1 locs1 cells slots Q (F0 m (pc + 3) ls rest)) : W p l e R s m args below meth c H locs cells slots Q (F0 m pc ls (.int v :: .ref (α 5 i) :: rest)) := by
  cases h
  exact g_put (C := RX1) (T := TX1) (N := 12) G inlX1 tyX1 tyX1_ok nmX1 rfl 11 (by decide) wm_10_0 rfl rfl (ty := .int) (by decide +kernel) rfl rfl rfl rfl rfl hW hN ⟨fun ty ψ j n q => sm_v_I ty q, show (Value.int ((wI σ 5 i 11 v).1 5 i 11)) = Value.int v by simp [wI, sm_up]⟩ hdg kk
theorem pp_X1_50 (G : gx p s m meth c args cc nL ret RX1 nm D dA) (hW : Wd D dA 0 α H0 σ H locs) {i : Nat} (hN : i < fN 5) {v : Int32} (h : sI 5 8 σ i v = some σ') (hdg : decode cc pc = .ok (.putfield 50, 3)) (kk : ∀ (H1 : Heap) (locs1 : List Loc), Wd D dA 0 α H0 σ' H1 locs1 → W p l e R s m args below meth c H1 locs1 cells slots Q (F0 m (pc + 3) ls rest)) : W p l e R s m args below meth c H locs cells slots Q (F0 m pc ls (.int v :: .ref (α 5 i) :: rest)) := by
  cases h
  exact g_put (C := RX1) (T := TX1) (N := 12) G inlX1 tyX1 tyX1_ok nmX1 rfl 8 (by decide) wm_10_1 rfl rfl (ty := .int) (by decide +kernel) rfl rfl rfl rfl rfl hW hN ⟨fun ty ψ j n q => sm_v_I ty q, show (Value.int ((wI σ 5 i 8 v).1 5 i 8)) = Value.int v by simp [wI, sm_up]⟩ hdg kk
theorem pp_X2_25 (G : gx p s m meth c args cc nL ret RX2 nm D dA) (hW : Wd D dA 0 α H0 σ H locs) (hN : 0 < fN 1) {v : Int32} (h : sI 1 2 σ 0 v = some σ') (hdg : decode cc pc = .ok (.putfield 25, 3)) (kk : ∀ (H1 : Heap) (locs1 : List Loc), Wd D dA 0 α H0 σ' H1 locs1 → W p l e R s m args below meth c H1 locs1 cells slots Q (F0 m (pc + 3) ls rest)) : W p l e R s m args below meth c H locs cells slots Q (F0 m pc ls (.int v :: .ref (α 1 0) :: rest)) := by
  cases h
  exact g_put (C := RX2) (T := TX2) (N := 4) G inlX2 tyX2 tyX2_ok nmX2 rfl 2 (by decide) wm_7_4 rfl rfl (ty := .int) (by decide +kernel) rfl rfl rfl rfl rfl hW hN ⟨fun ty ψ j n q => sm_v_I ty q, show (Value.int ((wI σ 1 0 2 v).1 1 0 2)) = Value.int v by simp [wI, sm_up]⟩ hdg kk
theorem pp_X2_29 (G : gx p s m meth c args cc nL ret RX2 nm D dA) (hW : Wd D dA 0 α H0 σ H locs) (hN : 0 < fN 1) {v : Int32} (h : sI 1 3 σ 0 v = some σ') (hdg : decode cc pc = .ok (.putfield 29, 3)) (kk : ∀ (H1 : Heap) (locs1 : List Loc), Wd D dA 0 α H0 σ' H1 locs1 → W p l e R s m args below meth c H1 locs1 cells slots Q (F0 m (pc + 3) ls rest)) : W p l e R s m args below meth c H locs cells slots Q (F0 m pc ls (.int v :: .ref (α 1 0) :: rest)) := by
  cases h
  exact g_put (C := RX2) (T := TX2) (N := 4) G inlX2 tyX2 tyX2_ok nmX2 rfl 3 (by decide) wm_9_5 rfl rfl (ty := .int) (by decide +kernel) rfl rfl rfl rfl rfl hW hN ⟨fun ty ψ j n q => sm_v_I ty q, show (Value.int ((wI σ 1 0 3 v).1 1 0 3)) = Value.int v by simp [wI, sm_up]⟩ hdg kk
theorem pp_X2_39 (G : gx p s m meth c args cc nL ret RX2 nm D dA) (hW : Wd D dA 0 α H0 σ H locs) {i : Nat} (hN : i < fN 4) {v : Int32} (h : sI 4 5 σ i v = some σ') (hdg : decode cc pc = .ok (.putfield 39, 3)) (kk : ∀ (H1 : Heap) (locs1 : List Loc), Wd D dA 0 α H0 σ' H1 locs1 → W p l e R s m args below meth c H1 locs1 cells slots Q (F0 m (pc + 3) ls rest)) : W p l e R s m args below meth c H locs cells slots Q (F0 m pc ls (.int v :: .ref (α 4 i) :: rest)) := by
  cases h
  exact g_put (C := RX4) (T := TX4) (N := 17) G inlX4 tyX4 tyX4_ok nmX4 rfl 5 (by decide) wm_9_6 rfl rfl (ty := .int) (by decide +kernel) rfl rfl rfl rfl rfl hW hN ⟨fun ty ψ j n q => sm_v_I ty q, show (Value.int ((wI σ 4 i 5 v).1 4 i 5)) = Value.int v by simp [wI, sm_up]⟩ hdg kk
theorem pp_X3_18 (G : gx p s m meth c args cc nL ret RX3 nm D dA) (hW : Wd D dA 0 α H0 σ H locs) (hN : 0 < fN 2) {v : Int32} (h : sI 2 2 σ 0 v = some σ') (hdg : decode cc pc = .ok (.putfield 18, 3)) (kk : ∀ (H1 : Heap) (locs1 : List Loc), Wd D dA 0 α H0 σ' H1 locs1 → W p l e R s m args below meth c H1 locs1 cells slots Q (F0 m (pc + 3) ls rest)) : W p l e R s m args below meth c H locs cells slots Q (F0 m pc ls (.int v :: .ref (α 2 0) :: rest)) := by
  cases h
  exact g_put (C := RX3) (T := TX3) (N := 5) G inlX3 tyX3 tyX3_ok nmX3 rfl 2 (by decide) wm_11_21 rfl rfl (ty := .int) (by decide +kernel) rfl rfl rfl rfl rfl hW hN ⟨fun ty ψ j n q => sm_v_I ty q, show (Value.int ((wI σ 2 0 2 v).1 2 0 2)) = Value.int v by simp [wI, sm_up]⟩ hdg kk
theorem pp_X3_22 (G : gx p s m meth c args cc nL ret RX3 nm D dA) (hW : Wd D dA 0 α H0 σ H locs) (hN : 0 < fN 2) {v : Int32} (h : sZ 2 3 σ 0 v = some σ') (hdg : decode cc pc = .ok (.putfield 22, 3)) (kk : ∀ (H1 : Heap) (locs1 : List Loc), Wd D dA 0 α H0 σ' H1 locs1 → W p l e R s m args below meth c H1 locs1 cells slots Q (F0 m (pc + 3) ls rest)) : W p l e R s m args below meth c H locs cells slots Q (F0 m pc ls (.int v :: .ref (α 2 0) :: rest)) := by
  obtain ⟨hz, h⟩ := o_i h
  subst h
  exact g_put (C := RX3) (T := TX3) (N := 5) G inlX3 tyX3 tyX3_ok nmX3 rfl 3 (by decide) wm_11_22 rfl rfl (ty := .boolean) (by decide +kernel) (by rcases hz with rfl | rfl <;> rfl) (by rcases hz with rfl | rfl <;> rfl) rfl rfl rfl hW hN ⟨fun ty ψ j n q => sm_v_I ty q, show (Value.int ((wI σ 2 0 3 v).1 2 0 3)) = Value.int v by simp [wI, sm_up]⟩ hdg kk
theorem pp_X3_32 (G : gx p s m meth c args cc nL ret RX3 nm D dA) (hW : Wd D dA 0 α H0 σ H locs) (hN : 0 < fN 2) {v : Int32} (h : sI 2 4 σ 0 v = some σ') (hdg : decode cc pc = .ok (.putfield 32, 3)) (kk : ∀ (H1 : Heap) (locs1 : List Loc), Wd D dA 0 α H0 σ' H1 locs1 → W p l e R s m args below meth c H1 locs1 cells slots Q (F0 m (pc + 3) ls rest)) : W p l e R s m args below meth c H locs cells slots Q (F0 m pc ls (.int v :: .ref (α 2 0) :: rest)) := by
  cases h
  exact g_put (C := RX3) (T := TX3) (N := 5) G inlX3 tyX3 tyX3_ok nmX3 rfl 4 (by decide) wm_11_23 rfl rfl (ty := .int) (by decide +kernel) rfl rfl rfl rfl rfl hW hN ⟨fun ty ψ j n q => sm_v_I ty q, show (Value.int ((wI σ 2 0 4 v).1 2 0 4)) = Value.int v by simp [wI, sm_up]⟩ hdg kk
theorem pp_X4_18 (G : gx p s m meth c args cc nL ret RX4 nm D dA) (hW : Wd D dA 0 α H0 σ H locs) {i : Nat} (hN : i < fN 4) {v : Int32} (h : sI 4 2 σ i v = some σ') (hdg : decode cc pc = .ok (.putfield 18, 3)) (kk : ∀ (H1 : Heap) (locs1 : List Loc), Wd D dA 0 α H0 σ' H1 locs1 → W p l e R s m args below meth c H1 locs1 cells slots Q (F0 m (pc + 3) ls rest)) : W p l e R s m args below meth c H locs cells slots Q (F0 m pc ls (.int v :: .ref (α 4 i) :: rest)) := by
  cases h
  exact g_put (C := RX4) (T := TX4) (N := 17) G inlX4 tyX4 tyX4_ok nmX4 rfl 2 (by decide) wm_7_9 rfl rfl (ty := .int) (by decide +kernel) rfl rfl rfl rfl rfl hW hN ⟨fun ty ψ j n q => sm_v_I ty q, show (Value.int ((wI σ 4 i 2 v).1 4 i 2)) = Value.int v by simp [wI, sm_up]⟩ hdg kk
theorem pp_X4_22 (G : gx p s m meth c args cc nL ret RX4 nm D dA) (hW : Wd D dA 0 α H0 σ H locs) {i : Nat} (hN : i < fN 4) {v : Int32} (h : sI 4 3 σ i v = some σ') (hdg : decode cc pc = .ok (.putfield 22, 3)) (kk : ∀ (H1 : Heap) (locs1 : List Loc), Wd D dA 0 α H0 σ' H1 locs1 → W p l e R s m args below meth c H1 locs1 cells slots Q (F0 m (pc + 3) ls rest)) : W p l e R s m args below meth c H locs cells slots Q (F0 m pc ls (.int v :: .ref (α 4 i) :: rest)) := by
  cases h
  exact g_put (C := RX4) (T := TX4) (N := 17) G inlX4 tyX4 tyX4_ok nmX4 rfl 3 (by decide) wm_7_10 rfl rfl (ty := .int) (by decide +kernel) rfl rfl rfl rfl rfl hW hN ⟨fun ty ψ j n q => sm_v_I ty q, show (Value.int ((wI σ 4 i 3 v).1 4 i 3)) = Value.int v by simp [wI, sm_up]⟩ hdg kk
theorem pp_X4_25 (G : gx p s m meth c args cc nL ret RX4 nm D dA) (hW : Wd D dA 0 α H0 σ H locs) {i : Nat} (hN : i < fN 4) {v : Int32} (h : sI 4 4 σ i v = some σ') (hdg : decode cc pc = .ok (.putfield 25, 3)) (kk : ∀ (H1 : Heap) (locs1 : List Loc), Wd D dA 0 α H0 σ' H1 locs1 → W p l e R s m args below meth c H1 locs1 cells slots Q (F0 m (pc + 3) ls rest)) : W p l e R s m args below meth c H locs cells slots Q (F0 m pc ls (.int v :: .ref (α 4 i) :: rest)) := by
  cases h
  exact g_put (C := RX4) (T := TX4) (N := 17) G inlX4 tyX4 tyX4_ok nmX4 rfl 4 (by decide) wm_7_11 rfl rfl (ty := .int) (by decide +kernel) rfl rfl rfl rfl rfl hW hN ⟨fun ty ψ j n q => sm_v_I ty q, show (Value.int ((wI σ 4 i 4 v).1 4 i 4)) = Value.int v by simp [wI, sm_up]⟩ hdg kk
theorem pp_X4_28 (G : gx p s m meth c args cc nL ret RX4 nm D dA) (hW : Wd D dA 0 α H0 σ H locs) {i : Nat} (hN : i < fN 4) {v : Int32} (h : sI 4 5 σ i v = some σ') (hdg : decode cc pc = .ok (.putfield 28, 3)) (kk : ∀ (H1 : Heap) (locs1 : List Loc), Wd D dA 0 α H0 σ' H1 locs1 → W p l e R s m args below meth c H1 locs1 cells slots Q (F0 m (pc + 3) ls rest)) : W p l e R s m args below meth c H locs cells slots Q (F0 m pc ls (.int v :: .ref (α 4 i) :: rest)) := by
  cases h
  exact g_put (C := RX4) (T := TX4) (N := 17) G inlX4 tyX4 tyX4_ok nmX4 rfl 5 (by decide) wm_7_12 rfl rfl (ty := .int) (by decide +kernel) rfl rfl rfl rfl rfl hW hN ⟨fun ty ψ j n q => sm_v_I ty q, show (Value.int ((wI σ 4 i 5 v).1 4 i 5)) = Value.int v by simp [wI, sm_up]⟩ hdg kk
theorem pp_X4_31 (G : gx p s m meth c args cc nL ret RX4 nm D dA) (hW : Wd D dA 0 α H0 σ H locs) {i : Nat} (hN : i < fN 4) {v : Int32} (h : sI 4 6 σ i v = some σ') (hdg : decode cc pc = .ok (.putfield 31, 3)) (kk : ∀ (H1 : Heap) (locs1 : List Loc), Wd D dA 0 α H0 σ' H1 locs1 → W p l e R s m args below meth c H1 locs1 cells slots Q (F0 m (pc + 3) ls rest)) : W p l e R s m args below meth c H locs cells slots Q (F0 m pc ls (.int v :: .ref (α 4 i) :: rest)) := by
  cases h
  exact g_put (C := RX4) (T := TX4) (N := 17) G inlX4 tyX4 tyX4_ok nmX4 rfl 6 (by decide) wm_7_13 rfl rfl (ty := .int) (by decide +kernel) rfl rfl rfl rfl rfl hW hN ⟨fun ty ψ j n q => sm_v_I ty q, show (Value.int ((wI σ 4 i 6 v).1 4 i 6)) = Value.int v by simp [wI, sm_up]⟩ hdg kk
theorem pp_X4_34 (G : gx p s m meth c args cc nL ret RX4 nm D dA) (hW : Wd D dA 0 α H0 σ H locs) {i : Nat} (hN : i < fN 4) {v : Int32} (h : sI 4 7 σ i v = some σ') (hdg : decode cc pc = .ok (.putfield 34, 3)) (kk : ∀ (H1 : Heap) (locs1 : List Loc), Wd D dA 0 α H0 σ' H1 locs1 → W p l e R s m args below meth c H1 locs1 cells slots Q (F0 m (pc + 3) ls rest)) : W p l e R s m args below meth c H locs cells slots Q (F0 m pc ls (.int v :: .ref (α 4 i) :: rest)) := by
  cases h
  exact g_put (C := RX4) (T := TX4) (N := 17) G inlX4 tyX4 tyX4_ok nmX4 rfl 7 (by decide) wm_7_14 rfl rfl (ty := .int) (by decide +kernel) rfl rfl rfl rfl rfl hW hN ⟨fun ty ψ j n q => sm_v_I ty q, show (Value.int ((wI σ 4 i 7 v).1 4 i 7)) = Value.int v by simp [wI, sm_up]⟩ hdg kk
theorem pp_X4_37 (G : gx p s m meth c args cc nL ret RX4 nm D dA) (hW : Wd D dA 0 α H0 σ H locs) {i : Nat} (hN : i < fN 4) {v : Int32} (h : sI 4 8 σ i v = some σ') (hdg : decode cc pc = .ok (.putfield 37, 3)) (kk : ∀ (H1 : Heap) (locs1 : List Loc), Wd D dA 0 α H0 σ' H1 locs1 → W p l e R s m args below meth c H1 locs1 cells slots Q (F0 m (pc + 3) ls rest)) : W p l e R s m args below meth c H locs cells slots Q (F0 m pc ls (.int v :: .ref (α 4 i) :: rest)) := by
  cases h
  exact g_put (C := RX4) (T := TX4) (N := 17) G inlX4 tyX4 tyX4_ok nmX4 rfl 8 (by decide) wm_7_15 rfl rfl (ty := .int) (by decide +kernel) rfl rfl rfl rfl rfl hW hN ⟨fun ty ψ j n q => sm_v_I ty q, show (Value.int ((wI σ 4 i 8 v).1 4 i 8)) = Value.int v by simp [wI, sm_up]⟩ hdg kk
theorem pp_X4_40 (G : gx p s m meth c args cc nL ret RX4 nm D dA) (hW : Wd D dA 0 α H0 σ H locs) {i : Nat} (hN : i < fN 4) {v : Int32} (h : sI 4 9 σ i v = some σ') (hdg : decode cc pc = .ok (.putfield 40, 3)) (kk : ∀ (H1 : Heap) (locs1 : List Loc), Wd D dA 0 α H0 σ' H1 locs1 → W p l e R s m args below meth c H1 locs1 cells slots Q (F0 m (pc + 3) ls rest)) : W p l e R s m args below meth c H locs cells slots Q (F0 m pc ls (.int v :: .ref (α 4 i) :: rest)) := by
  cases h
  exact g_put (C := RX4) (T := TX4) (N := 17) G inlX4 tyX4 tyX4_ok nmX4 rfl 9 (by decide) wm_7_16 rfl rfl (ty := .int) (by decide +kernel) rfl rfl rfl rfl rfl hW hN ⟨fun ty ψ j n q => sm_v_I ty q, show (Value.int ((wI σ 4 i 9 v).1 4 i 9)) = Value.int v by simp [wI, sm_up]⟩ hdg kk
theorem pp_X4_43 (G : gx p s m meth c args cc nL ret RX4 nm D dA) (hW : Wd D dA 0 α H0 σ H locs) {i : Nat} (hN : i < fN 4) {v : Int32} (h : sI 4 10 σ i v = some σ') (hdg : decode cc pc = .ok (.putfield 43, 3)) (kk : ∀ (H1 : Heap) (locs1 : List Loc), Wd D dA 0 α H0 σ' H1 locs1 → W p l e R s m args below meth c H1 locs1 cells slots Q (F0 m (pc + 3) ls rest)) : W p l e R s m args below meth c H locs cells slots Q (F0 m pc ls (.int v :: .ref (α 4 i) :: rest)) := by
  cases h
  exact g_put (C := RX4) (T := TX4) (N := 17) G inlX4 tyX4 tyX4_ok nmX4 rfl 10 (by decide) wm_7_17 rfl rfl (ty := .int) (by decide +kernel) rfl rfl rfl rfl rfl hW hN ⟨fun ty ψ j n q => sm_v_I ty q, show (Value.int ((wI σ 4 i 10 v).1 4 i 10)) = Value.int v by simp [wI, sm_up]⟩ hdg kk
theorem pp_X4_46 (G : gx p s m meth c args cc nL ret RX4 nm D dA) (hW : Wd D dA 0 α H0 σ H locs) {i : Nat} (hN : i < fN 4) {v : Int32} (h : sI 4 11 σ i v = some σ') (hdg : decode cc pc = .ok (.putfield 46, 3)) (kk : ∀ (H1 : Heap) (locs1 : List Loc), Wd D dA 0 α H0 σ' H1 locs1 → W p l e R s m args below meth c H1 locs1 cells slots Q (F0 m (pc + 3) ls rest)) : W p l e R s m args below meth c H locs cells slots Q (F0 m pc ls (.int v :: .ref (α 4 i) :: rest)) := by
  cases h
  exact g_put (C := RX4) (T := TX4) (N := 17) G inlX4 tyX4 tyX4_ok nmX4 rfl 11 (by decide) wm_7_18 rfl rfl (ty := .int) (by decide +kernel) rfl rfl rfl rfl rfl hW hN ⟨fun ty ψ j n q => sm_v_I ty q, show (Value.int ((wI σ 4 i 11 v).1 4 i 11)) = Value.int v by simp [wI, sm_up]⟩ hdg kk
theorem pp_X4_49 (G : gx p s m meth c args cc nL ret RX4 nm D dA) (hW : Wd D dA 0 α H0 σ H locs) {i : Nat} (hN : i < fN 4) {v : Int32} (h : sI 4 12 σ i v = some σ') (hdg : decode cc pc = .ok (.putfield 49, 3)) (kk : ∀ (H1 : Heap) (locs1 : List Loc), Wd D dA 0 α H0 σ' H1 locs1 → W p l e R s m args below meth c H1 locs1 cells slots Q (F0 m (pc + 3) ls rest)) : W p l e R s m args below meth c H locs cells slots Q (F0 m pc ls (.int v :: .ref (α 4 i) :: rest)) := by
  cases h
  exact g_put (C := RX4) (T := TX4) (N := 17) G inlX4 tyX4 tyX4_ok nmX4 rfl 12 (by decide) wm_7_19 rfl rfl (ty := .int) (by decide +kernel) rfl rfl rfl rfl rfl hW hN ⟨fun ty ψ j n q => sm_v_I ty q, show (Value.int ((wI σ 4 i 12 v).1 4 i 12)) = Value.int v by simp [wI, sm_up]⟩ hdg kk
theorem pp_X4_52 (G : gx p s m meth c args cc nL ret RX4 nm D dA) (hW : Wd D dA 0 α H0 σ H locs) {i : Nat} (hN : i < fN 4) {v : Int32} (h : sI 4 13 σ i v = some σ') (hdg : decode cc pc = .ok (.putfield 52, 3)) (kk : ∀ (H1 : Heap) (locs1 : List Loc), Wd D dA 0 α H0 σ' H1 locs1 → W p l e R s m args below meth c H1 locs1 cells slots Q (F0 m (pc + 3) ls rest)) : W p l e R s m args below meth c H locs cells slots Q (F0 m pc ls (.int v :: .ref (α 4 i) :: rest)) := by
  cases h
  exact g_put (C := RX4) (T := TX4) (N := 17) G inlX4 tyX4 tyX4_ok nmX4 rfl 13 (by decide) wm_7_20 rfl rfl (ty := .int) (by decide +kernel) rfl rfl rfl rfl rfl hW hN ⟨fun ty ψ j n q => sm_v_I ty q, show (Value.int ((wI σ 4 i 13 v).1 4 i 13)) = Value.int v by simp [wI, sm_up]⟩ hdg kk
theorem pp_X4_58 (G : gx p s m meth c args cc nL ret RX4 nm D dA) (hW : Wd D dA 0 α H0 σ H locs) {i : Nat} (hN : i < fN 4) {v : Int32} (h : sI 4 14 σ i v = some σ') (hdg : decode cc pc = .ok (.putfield 58, 3)) (kk : ∀ (H1 : Heap) (locs1 : List Loc), Wd D dA 0 α H0 σ' H1 locs1 → W p l e R s m args below meth c H1 locs1 cells slots Q (F0 m (pc + 3) ls rest)) : W p l e R s m args below meth c H locs cells slots Q (F0 m pc ls (.int v :: .ref (α 4 i) :: rest)) := by
  cases h
  exact g_put (C := RX4) (T := TX4) (N := 17) G inlX4 tyX4 tyX4_ok nmX4 rfl 14 (by decide) wm_8_1 rfl rfl (ty := .int) (by decide +kernel) rfl rfl rfl rfl rfl hW hN ⟨fun ty ψ j n q => sm_v_I ty q, show (Value.int ((wI σ 4 i 14 v).1 4 i 14)) = Value.int v by simp [wI, sm_up]⟩ hdg kk
theorem pp_X4_61 (G : gx p s m meth c args cc nL ret RX4 nm D dA) (hW : Wd D dA 0 α H0 σ H locs) {i : Nat} (hN : i < fN 4) {v : Int32} (h : sI 4 15 σ i v = some σ') (hdg : decode cc pc = .ok (.putfield 61, 3)) (kk : ∀ (H1 : Heap) (locs1 : List Loc), Wd D dA 0 α H0 σ' H1 locs1 → W p l e R s m args below meth c H1 locs1 cells slots Q (F0 m (pc + 3) ls rest)) : W p l e R s m args below meth c H locs cells slots Q (F0 m pc ls (.int v :: .ref (α 4 i) :: rest)) := by
  cases h
  exact g_put (C := RX4) (T := TX4) (N := 17) G inlX4 tyX4 tyX4_ok nmX4 rfl 15 (by decide) wm_8_2 rfl rfl (ty := .int) (by decide +kernel) rfl rfl rfl rfl rfl hW hN ⟨fun ty ψ j n q => sm_v_I ty q, show (Value.int ((wI σ 4 i 15 v).1 4 i 15)) = Value.int v by simp [wI, sm_up]⟩ hdg kk
theorem pp_X4_64 (G : gx p s m meth c args cc nL ret RX4 nm D dA) (hW : Wd D dA 0 α H0 σ H locs) {i : Nat} (hN : i < fN 4) {v : Int32} (h : sI 4 16 σ i v = some σ') (hdg : decode cc pc = .ok (.putfield 64, 3)) (kk : ∀ (H1 : Heap) (locs1 : List Loc), Wd D dA 0 α H0 σ' H1 locs1 → W p l e R s m args below meth c H1 locs1 cells slots Q (F0 m (pc + 3) ls rest)) : W p l e R s m args below meth c H locs cells slots Q (F0 m pc ls (.int v :: .ref (α 4 i) :: rest)) := by
  cases h
  exact g_put (C := RX4) (T := TX4) (N := 17) G inlX4 tyX4 tyX4_ok nmX4 rfl 16 (by decide) wm_8_3 rfl rfl (ty := .int) (by decide +kernel) rfl rfl rfl rfl rfl hW hN ⟨fun ty ψ j n q => sm_v_I ty q, show (Value.int ((wI σ 4 i 16 v).1 4 i 16)) = Value.int v by simp [wI, sm_up]⟩ hdg kk
theorem pp_X6_131 (G : gx p s m meth c args cc nL ret RX6 nm D dA) (hW : Wd D dA 1 α H0 σ H locs) (hN : 0 < fN 20) {v : Int32} (h : sI 20 0 σ 0 v = some σ') (hdg : decode cc pc = .ok (.putfield 131, 3)) (kk : ∀ (H1 : Heap) (locs1 : List Loc), Wd D dA 1 α H0 σ' H1 locs1 → W p l e R s m args below meth c H1 locs1 cells slots Q (F0 m (pc + 3) ls rest)) : W p l e R s m args below meth c H locs cells slots Q (F0 m pc ls (.int v :: .ref (α 20 0) :: rest)) := by
  cases h
  exact g_put (C := RX6) (T := TX6) (N := 51) G inlX6 tyX6 tyX6_ok nmX6 rfl 0 (by decide) wm_6_2 rfl rfl (ty := .int) (by decide +kernel) rfl rfl rfl rfl rfl hW hN ⟨fun ty ψ j n q => sm_v_I ty q, show (Value.int ((wI σ 20 0 0 v).1 20 0 0)) = Value.int v by simp [wI, sm_up]⟩ hdg kk
theorem pp_X6_135 (G : gx p s m meth c args cc nL ret RX6 nm D dA) (hW : Wd D dA 1 α H0 σ H locs) (hN : 0 < fN 20) {v : Int32} (h : sI 20 14 σ 0 v = some σ') (hdg : decode cc pc = .ok (.putfield 135, 3)) (kk : ∀ (H1 : Heap) (locs1 : List Loc), Wd D dA 1 α H0 σ' H1 locs1 → W p l e R s m args below meth c H1 locs1 cells slots Q (F0 m (pc + 3) ls rest)) : W p l e R s m args below meth c H locs cells slots Q (F0 m pc ls (.int v :: .ref (α 20 0) :: rest)) := by
  cases h
  exact g_put (C := RX6) (T := TX6) (N := 51) G inlX6 tyX6 tyX6_ok nmX6 rfl 14 (by decide) wm_6_3 rfl rfl (ty := .int) (by decide +kernel) rfl rfl rfl rfl rfl hW hN ⟨fun ty ψ j n q => sm_v_I ty q, show (Value.int ((wI σ 20 0 14 v).1 20 0 14)) = Value.int v by simp [wI, sm_up]⟩ hdg kk
theorem pp_X6_138 (G : gx p s m meth c args cc nL ret RX6 nm D dA) (hW : Wd D dA 1 α H0 σ H locs) (hN : 0 < fN 20) {v : Int32} (h : sI 20 32 σ 0 v = some σ') (hdg : decode cc pc = .ok (.putfield 138, 3)) (kk : ∀ (H1 : Heap) (locs1 : List Loc), Wd D dA 1 α H0 σ' H1 locs1 → W p l e R s m args below meth c H1 locs1 cells slots Q (F0 m (pc + 3) ls rest)) : W p l e R s m args below meth c H locs cells slots Q (F0 m pc ls (.int v :: .ref (α 20 0) :: rest)) := by
  cases h
  exact g_put (C := RX6) (T := TX6) (N := 51) G inlX6 tyX6 tyX6_ok nmX6 rfl 32 (by decide) wm_6_4 rfl rfl (ty := .int) (by decide +kernel) rfl rfl rfl rfl rfl hW hN ⟨fun ty ψ j n q => sm_v_I ty q, show (Value.int ((wI σ 20 0 32 v).1 20 0 32)) = Value.int v by simp [wI, sm_up]⟩ hdg kk
theorem pp_X6_141 (G : gx p s m meth c args cc nL ret RX6 nm D dA) (hW : Wd D dA 1 α H0 σ H locs) (hN : 0 < fN 20) {v : Int32} (h : sZ 20 33 σ 0 v = some σ') (hdg : decode cc pc = .ok (.putfield 141, 3)) (kk : ∀ (H1 : Heap) (locs1 : List Loc), Wd D dA 1 α H0 σ' H1 locs1 → W p l e R s m args below meth c H1 locs1 cells slots Q (F0 m (pc + 3) ls rest)) : W p l e R s m args below meth c H locs cells slots Q (F0 m pc ls (.int v :: .ref (α 20 0) :: rest)) := by
  obtain ⟨hz, h⟩ := o_i h
  subst h
  exact g_put (C := RX6) (T := TX6) (N := 51) G inlX6 tyX6 tyX6_ok nmX6 rfl 33 (by decide) wm_6_5 rfl rfl (ty := .boolean) (by decide +kernel) (by rcases hz with rfl | rfl <;> rfl) (by rcases hz with rfl | rfl <;> rfl) rfl rfl rfl hW hN ⟨fun ty ψ j n q => sm_v_I ty q, show (Value.int ((wI σ 20 0 33 v).1 20 0 33)) = Value.int v by simp [wI, sm_up]⟩ hdg kk
theorem pp_X6_145 (G : gx p s m meth c args cc nL ret RX6 nm D dA) (hW : Wd D dA 1 α H0 σ H locs) (hN : 0 < fN 20) {v : Int32} (h : sI 20 34 σ 0 v = some σ') (hdg : decode cc pc = .ok (.putfield 145, 3)) (kk : ∀ (H1 : Heap) (locs1 : List Loc), Wd D dA 1 α H0 σ' H1 locs1 → W p l e R s m args below meth c H1 locs1 cells slots Q (F0 m (pc + 3) ls rest)) : W p l e R s m args below meth c H locs cells slots Q (F0 m pc ls (.int v :: .ref (α 20 0) :: rest)) := by
  cases h
  exact g_put (C := RX6) (T := TX6) (N := 51) G inlX6 tyX6 tyX6_ok nmX6 rfl 34 (by decide) wm_6_6 rfl rfl (ty := .int) (by decide +kernel) rfl rfl rfl rfl rfl hW hN ⟨fun ty ψ j n q => sm_v_I ty q, show (Value.int ((wI σ 20 0 34 v).1 20 0 34)) = Value.int v by simp [wI, sm_up]⟩ hdg kk
theorem pp_X6_148 (G : gx p s m meth c args cc nL ret RX6 nm D dA) (hW : Wd D dA 1 α H0 σ H locs) (hN : 0 < fN 20) {v : Int32} (h : sI 20 35 σ 0 v = some σ') (hdg : decode cc pc = .ok (.putfield 148, 3)) (kk : ∀ (H1 : Heap) (locs1 : List Loc), Wd D dA 1 α H0 σ' H1 locs1 → W p l e R s m args below meth c H1 locs1 cells slots Q (F0 m (pc + 3) ls rest)) : W p l e R s m args below meth c H locs cells slots Q (F0 m pc ls (.int v :: .ref (α 20 0) :: rest)) := by
  cases h
  exact g_put (C := RX6) (T := TX6) (N := 51) G inlX6 tyX6 tyX6_ok nmX6 rfl 35 (by decide) wm_6_7 rfl rfl (ty := .int) (by decide +kernel) rfl rfl rfl rfl rfl hW hN ⟨fun ty ψ j n q => sm_v_I ty q, show (Value.int ((wI σ 20 0 35 v).1 20 0 35)) = Value.int v by simp [wI, sm_up]⟩ hdg kk
theorem pp_X6_151 (G : gx p s m meth c args cc nL ret RX6 nm D dA) (hW : Wd D dA 1 α H0 σ H locs) (hN : 0 < fN 20) {v : Int32} (h : sI 20 36 σ 0 v = some σ') (hdg : decode cc pc = .ok (.putfield 151, 3)) (kk : ∀ (H1 : Heap) (locs1 : List Loc), Wd D dA 1 α H0 σ' H1 locs1 → W p l e R s m args below meth c H1 locs1 cells slots Q (F0 m (pc + 3) ls rest)) : W p l e R s m args below meth c H locs cells slots Q (F0 m pc ls (.int v :: .ref (α 20 0) :: rest)) := by
  cases h
  exact g_put (C := RX6) (T := TX6) (N := 51) G inlX6 tyX6 tyX6_ok nmX6 rfl 36 (by decide) wm_6_8 rfl rfl (ty := .int) (by decide +kernel) rfl rfl rfl rfl rfl hW hN ⟨fun ty ψ j n q => sm_v_I ty q, show (Value.int ((wI σ 20 0 36 v).1 20 0 36)) = Value.int v by simp [wI, sm_up]⟩ hdg kk
theorem pp_X6_154 (G : gx p s m meth c args cc nL ret RX6 nm D dA) (hW : Wd D dA 1 α H0 σ H locs) (hN : 0 < fN 20) {v : Int32} (h : sZ 20 37 σ 0 v = some σ') (hdg : decode cc pc = .ok (.putfield 154, 3)) (kk : ∀ (H1 : Heap) (locs1 : List Loc), Wd D dA 1 α H0 σ' H1 locs1 → W p l e R s m args below meth c H1 locs1 cells slots Q (F0 m (pc + 3) ls rest)) : W p l e R s m args below meth c H locs cells slots Q (F0 m pc ls (.int v :: .ref (α 20 0) :: rest)) := by
  obtain ⟨hz, h⟩ := o_i h
  subst h
  exact g_put (C := RX6) (T := TX6) (N := 51) G inlX6 tyX6 tyX6_ok nmX6 rfl 37 (by decide) wm_6_9 rfl rfl (ty := .boolean) (by decide +kernel) (by rcases hz with rfl | rfl <;> rfl) (by rcases hz with rfl | rfl <;> rfl) rfl rfl rfl hW hN ⟨fun ty ψ j n q => sm_v_I ty q, show (Value.int ((wI σ 20 0 37 v).1 20 0 37)) = Value.int v by simp [wI, sm_up]⟩ hdg kk
theorem pp_X6_157 (G : gx p s m meth c args cc nL ret RX6 nm D dA) (hW : Wd D dA 1 α H0 σ H locs) (hN : 0 < fN 20) {v : Int32} (h : sI 20 38 σ 0 v = some σ') (hdg : decode cc pc = .ok (.putfield 157, 3)) (kk : ∀ (H1 : Heap) (locs1 : List Loc), Wd D dA 1 α H0 σ' H1 locs1 → W p l e R s m args below meth c H1 locs1 cells slots Q (F0 m (pc + 3) ls rest)) : W p l e R s m args below meth c H locs cells slots Q (F0 m pc ls (.int v :: .ref (α 20 0) :: rest)) := by
  cases h
  exact g_put (C := RX6) (T := TX6) (N := 51) G inlX6 tyX6 tyX6_ok nmX6 rfl 38 (by decide) wm_6_10 rfl rfl (ty := .int) (by decide +kernel) rfl rfl rfl rfl rfl hW hN ⟨fun ty ψ j n q => sm_v_I ty q, show (Value.int ((wI σ 20 0 38 v).1 20 0 38)) = Value.int v by simp [wI, sm_up]⟩ hdg kk
theorem pp_X6_160 (G : gx p s m meth c args cc nL ret RX6 nm D dA) (hW : Wd D dA 1 α H0 σ H locs) (hN : 0 < fN 20) {v : Int32} (h : sI 20 39 σ 0 v = some σ') (hdg : decode cc pc = .ok (.putfield 160, 3)) (kk : ∀ (H1 : Heap) (locs1 : List Loc), Wd D dA 1 α H0 σ' H1 locs1 → W p l e R s m args below meth c H1 locs1 cells slots Q (F0 m (pc + 3) ls rest)) : W p l e R s m args below meth c H locs cells slots Q (F0 m pc ls (.int v :: .ref (α 20 0) :: rest)) := by
  cases h
  exact g_put (C := RX6) (T := TX6) (N := 51) G inlX6 tyX6 tyX6_ok nmX6 rfl 39 (by decide) wm_6_11 rfl rfl (ty := .int) (by decide +kernel) rfl rfl rfl rfl rfl hW hN ⟨fun ty ψ j n q => sm_v_I ty q, show (Value.int ((wI σ 20 0 39 v).1 20 0 39)) = Value.int v by simp [wI, sm_up]⟩ hdg kk
theorem pp_X6_163 (G : gx p s m meth c args cc nL ret RX6 nm D dA) (hW : Wd D dA 1 α H0 σ H locs) (hN : 0 < fN 20) {v : Int32} (h : sZ 20 43 σ 0 v = some σ') (hdg : decode cc pc = .ok (.putfield 163, 3)) (kk : ∀ (H1 : Heap) (locs1 : List Loc), Wd D dA 1 α H0 σ' H1 locs1 → W p l e R s m args below meth c H1 locs1 cells slots Q (F0 m (pc + 3) ls rest)) : W p l e R s m args below meth c H locs cells slots Q (F0 m pc ls (.int v :: .ref (α 20 0) :: rest)) := by
  obtain ⟨hz, h⟩ := o_i h
  subst h
  exact g_put (C := RX6) (T := TX6) (N := 51) G inlX6 tyX6 tyX6_ok nmX6 rfl 43 (by decide) wm_6_12 rfl rfl (ty := .boolean) (by decide +kernel) (by rcases hz with rfl | rfl <;> rfl) (by rcases hz with rfl | rfl <;> rfl) rfl rfl rfl hW hN ⟨fun ty ψ j n q => sm_v_I ty q, show (Value.int ((wI σ 20 0 43 v).1 20 0 43)) = Value.int v by simp [wI, sm_up]⟩ hdg kk
theorem pp_X6_166 (G : gx p s m meth c args cc nL ret RX6 nm D dA) (hW : Wd D dA 1 α H0 σ H locs) (hN : 0 < fN 20) {v : Int32} (h : sI 20 44 σ 0 v = some σ') (hdg : decode cc pc = .ok (.putfield 166, 3)) (kk : ∀ (H1 : Heap) (locs1 : List Loc), Wd D dA 1 α H0 σ' H1 locs1 → W p l e R s m args below meth c H1 locs1 cells slots Q (F0 m (pc + 3) ls rest)) : W p l e R s m args below meth c H locs cells slots Q (F0 m pc ls (.int v :: .ref (α 20 0) :: rest)) := by
  cases h
  exact g_put (C := RX6) (T := TX6) (N := 51) G inlX6 tyX6 tyX6_ok nmX6 rfl 44 (by decide) wm_6_13 rfl rfl (ty := .int) (by decide +kernel) rfl rfl rfl rfl rfl hW hN ⟨fun ty ψ j n q => sm_v_I ty q, show (Value.int ((wI σ 20 0 44 v).1 20 0 44)) = Value.int v by simp [wI, sm_up]⟩ hdg kk
end LNK
end
section
def f_X0_putDown (v1 : Int32) (v2 : Int32) (v3 : Int32) (σ : sm_M) : Option (sm_M) :=
  if (64 : Int32) ≤ (σ.1 3 0 3) then
    some σ
  else
    (uI 11 σ 0 (σ.1 3 0 3) v1).bind fun σ1 =>
    (uI 12 σ1 0 (σ1.1 3 0 3) v2).bind fun σ2 =>
    (uI 13 σ2 0 (σ2.1 3 0 3) v3).bind fun σ3 =>
    (sI 3 3 σ3 0 ((σ3.1 3 0 3) + (1 : Int32))).bind fun σ4 =>
    some σ4
def f_X1_keepAsMark (a0 : Nat) (σ : sm_M) : Option (sm_M) :=
  (sI 5 9 σ a0 (σ.1 5 a0 4)).bind fun σ1 =>
  (sI 5 10 σ1 a0 (σ1.1 5 a0 5)).bind fun σ2 =>
  (sI 5 11 σ2 a0 (σ2.1 5 a0 6)).bind fun σ3 =>
  (sI 5 8 σ3 a0 (0 : Int32)).bind fun σ4 =>
  some σ4
def f_X1_set (a0 : Nat) (v1 : Int32) (v2 : Int32) (v3 : Int32) (σ : sm_M) : Option (sm_M) :=
  (sI 5 1 σ a0 v1).bind fun σ1 =>
  (sI 5 2 σ1 a0 v2).bind fun σ2 =>
  (sZ 5 3 σ2 a0 v3).bind fun σ3 =>
  (sI 5 4 σ3 a0 (0 : Int32)).bind fun σ4 =>
  (sI 5 5 σ4 a0 (0 : Int32)).bind fun σ5 =>
  (sI 5 6 σ5 a0 (0 : Int32)).bind fun σ6 =>
  (sI 5 7 σ6 a0 (0 : Int32)).bind fun σ7 =>
  (f_X1_keepAsMark a0 σ7).bind fun q8 =>
  some q8
def f_X5_isIn_14 (s0 : Int32) (σ : sm_M) : Option (Int32 × sm_M) :=
  if s0 = 0 ∨ s0 = 1 then some (s0, σ) else none
def f_X5_isIn (v0 : Int32) (v1 : Int32) (σ : sm_M) : Option (Int32 × sm_M) :=
  if ((v0 >>> (v1 &&& 31)) &&& (1 : Int32)) = (1 : Int32) then
    f_X5_isIn_14 (1 : Int32) σ
  else
    f_X5_isIn_14 (0 : Int32) σ
def f_X1_isOverAt_24 (s0 : Int32) (σ : sm_M) : Option (Int32 × sm_M) :=
  if s0 = 0 ∨ s0 = 1 then some (s0, σ) else none
def f_X1_isOverAt_23 (σ : sm_M) : Option (Int32 × sm_M) :=
  f_X1_isOverAt_24 (0 : Int32) σ
def f_X1_isOverAt (a0 : Nat) (v1 : Int32) (v2 : Int32) (σ : sm_M) : Option (Int32 × sm_M) :=
  (f_X5_isIn v2 (σ.1 5 a0 1) σ).bind fun q1 =>
  if q1.1 = 0 then
    f_X1_isOverAt_23 q1.2
  else
    if v1 < (q1.2.1 5 a0 5) then
      f_X1_isOverAt_23 q1.2
    else
      f_X1_isOverAt_24 (1 : Int32) q1.2
def f_X1_offersAt_22 (s0 : Int32) (σ : sm_M) : Option (Int32 × sm_M) :=
  if s0 = 0 ∨ s0 = 1 then some (s0, σ) else none
def f_X1_offersAt_21 (σ : sm_M) : Option (Int32 × sm_M) :=
  f_X1_offersAt_22 (0 : Int32) σ
def f_X1_offersAt (a0 : Nat) (v1 : Int32) (v2 : Int32) (σ : sm_M) : Option (Int32 × sm_M) :=
  if (σ.1 5 a0 4) ≤ v1 then
    f_X1_offersAt_21 σ
  else
    (f_X1_isOverAt a0 v1 v2 σ).bind fun q1 =>
    if q1.1 = 0 then
      f_X1_offersAt_22 (1 : Int32) q1.2
    else
      f_X1_offersAt_21 q1.2
def f_X1_takeOne (a0 : Nat) (σ : sm_M) : Option (sm_M) :=
  (sI 5 6 σ a0 ((σ.1 5 a0 6) + (1 : Int32))).bind fun σ1 =>
  (sI 5 7 σ1 a0 (if (σ1.1 5 a0 7) < (σ1.1 5 a0 6) then (σ1.1 5 a0 6) else (σ1.1 5 a0 7))).bind fun σ2 =>
  some σ2
def f_X1_put_41 (a0 : Nat) (σ : sm_M) : Option (sm_M) :=
  (sI 5 5 σ a0 ((σ.1 5 a0 5) + (1 : Int32))).bind fun σ1 =>
  some σ1
def f_X1_put (a0 : Nat) (v1 : Int32) (σ : sm_M) : Option (sm_M) :=
  if (σ.1 5 a0 5) < (64 : Int32) then
    if (σ.1 5 a0 5) = (σ.1 5 a0 4) then
      (uI 16 σ a0 (σ.1 5 a0 4) v1).bind fun σ1 =>
      (sI 5 4 σ1 a0 ((σ1.1 5 a0 4) + (1 : Int32))).bind fun σ2 =>
      f_X1_put_41 a0 σ2
    else
      f_X1_put_41 a0 σ
  else
    some σ
def f_X1_loseBehindMark (a0 : Nat) (σ : sm_M) : Option (sm_M) :=
  (sI 5 8 σ a0 ((σ.1 5 a0 4) - (σ.1 5 a0 9))).bind fun σ1 =>
  some σ1
def f_X1_settled (a0 : Nat) (σ : sm_M) : Option (Int32 × sm_M) :=
  some ((if (σ.1 5 a0 9) < (σ.1 5 a0 11) then (σ.1 5 a0 11) else (σ.1 5 a0 9)), σ)
def f_X1_rewindGiver_45 (a0 : Nat) (σ : sm_M) : Option (sm_M) :=
  (sI 5 4 σ a0 (σ.1 5 a0 9)).bind fun σ1 =>
  (sI 5 8 σ1 a0 (0 : Int32)).bind fun σ2 =>
  some σ2
def f_X1_rewindGiver_27 (a0 : Nat) (v1 : Int32) (σ : sm_M) : Option (sm_M) :=
  if (σ.1 5 a0 3) = 0 then
    f_X1_rewindGiver_45 a0 σ
  else
    if v1 = 0 then
      if (σ.1 5 a0 8) ≤ 0 then
        some σ
      else
        f_X1_rewindGiver_45 a0 σ
    else
      f_X1_rewindGiver_45 a0 σ
def f_X1_rewindGiver (a0 : Nat) (v1 : Int32) (σ : sm_M) : Option (sm_M) :=
  (sI 5 5 σ a0 (σ.1 5 a0 10)).bind fun σ1 =>
  if v1 = 0 then
    f_X1_rewindGiver_27 a0 v1 σ1
  else
    (f_X1_settled a0 σ1).bind fun q2 =>
    (sI 5 7 q2.2 a0 (if q2.1 < (σ1.1 5 a0 7) then q2.1 else (σ1.1 5 a0 7))).bind fun σ3 =>
    f_X1_rewindGiver_27 a0 v1 σ3
def f_X1_rewindTaker (a0 : Nat) (σ : sm_M) : Option (sm_M) :=
  (sI 5 6 σ a0 (σ.1 5 a0 11)).bind fun σ1 =>
  some σ1
def f_X2_hasTask_17 (s0 : Int32) (σ : sm_M) : Option (Int32 × sm_M) :=
  if s0 = 0 ∨ s0 = 1 then some (s0, σ) else none
def f_X2_hasTask_16 (σ : sm_M) : Option (Int32 × sm_M) :=
  f_X2_hasTask_17 (0 : Int32) σ
def f_X2_hasTask (v1 : Int32) (σ : sm_M) : Option (Int32 × sm_M) :=
  if v1 < 0 then
    f_X2_hasTask_16 σ
  else
    if (σ.1 1 0 2) ≤ v1 then
      f_X2_hasTask_16 σ
    else
      f_X2_hasTask_17 (1 : Int32) σ
def f_X2_hasChannel_17 (s0 : Int32) (σ : sm_M) : Option (Int32 × sm_M) :=
  if s0 = 0 ∨ s0 = 1 then some (s0, σ) else none
def f_X2_hasChannel_16 (σ : sm_M) : Option (Int32 × sm_M) :=
  f_X2_hasChannel_17 (0 : Int32) σ
def f_X2_hasChannel (v1 : Int32) (σ : sm_M) : Option (Int32 × sm_M) :=
  if v1 < 0 then
    f_X2_hasChannel_16 σ
  else
    if (σ.1 1 0 3) ≤ v1 then
      f_X2_hasChannel_16 σ
    else
      f_X2_hasChannel_17 (1 : Int32) σ
def f_X4_keepAsMark (a0 : Nat) (σ : sm_M) : Option (sm_M) :=
  (sI 4 14 σ a0 (σ.1 4 a0 11)).bind fun σ1 =>
  (sI 4 15 σ1 a0 (σ1.1 4 a0 12)).bind fun σ2 =>
  (sI 4 16 σ2 a0 (σ2.1 4 a0 13)).bind fun σ3 =>
  some σ3
def f_X4_set (a0 : Nat) (v1 : Int32) (v2 : Int32) (v3 : Int32) (σ : sm_M) : Option (sm_M) :=
  (sI 4 2 σ a0 v1).bind fun σ1 =>
  (sI 4 3 σ1 a0 v2).bind fun σ2 =>
  (sI 4 4 σ2 a0 v3).bind fun σ3 =>
  (sI 4 5 σ3 a0 (0 : Int32)).bind fun σ4 =>
  (sI 4 6 σ4 a0 (1001 : Int32)).bind fun σ5 =>
  (sI 4 7 σ5 a0 (8 : Int32)).bind fun σ6 =>
  (sI 4 8 σ6 a0 (0 : Int32)).bind fun σ7 =>
  (sI 4 9 σ7 a0 (0 : Int32)).bind fun σ8 =>
  (sI 4 10 σ8 a0 (0 : Int32)).bind fun σ9 =>
  (sI 4 11 σ9 a0 (0 : Int32)).bind fun σ10 =>
  (sI 4 12 σ10 a0 (0 : Int32)).bind fun σ11 =>
  (sI 4 13 σ11 a0 (0 : Int32)).bind fun σ12 =>
  (f_X4_keepAsMark a0 σ12).bind fun q13 =>
  some q13
def f_X2_addTask (v1 : Int32) (v2 : Int32) (v3 : Int32) (σ : sm_M) : Option (Int32 × sm_M) :=
  (aP 7 (σ.1 1 0 2)).bind fun x1 =>
  (f_X4_set x1 v1 v2 v3 σ).bind fun q2 =>
  (sI 1 2 q2 0 ((q2.1 1 0 2) + (1 : Int32))).bind fun σ3 =>
  some (((σ3.1 1 0 2) - (1 : Int32)), σ3)
def f_X2_addChannel (v1 : Int32) (v2 : Int32) (v3 : Int32) (σ : sm_M) : Option (Int32 × sm_M) :=
  (aP 8 (σ.1 1 0 3)).bind fun x1 =>
  (f_X1_set x1 v1 v2 v3 σ).bind fun q2 =>
  (aP 7 v2).bind fun x3 =>
  (sI 4 5 q2 x3 ((q2.1 4 x3 5) ||| ((1 : Int32) <<< (v1 &&& 31)))).bind fun σ4 =>
  (sI 1 3 σ4 0 ((σ4.1 1 0 3) + (1 : Int32))).bind fun σ5 =>
  some (((σ5.1 1 0 3) - (1 : Int32)), σ5)
def f_X2_tasksOn_37 (v2 : Int32) (σ : sm_M) : Option (Int32 × sm_M) :=
  some (v2, σ)
def f_X2_tasksOn_31 (k4 : Int32 → Int32 → Int32 → sm_M → Option (Int32 × sm_M)) (v1 : Int32) (v2 : Int32) (v3 : Int32) (σ : sm_M) : Option (Int32 × sm_M) :=
  k4 v1 v2 (v3 + 1) σ
def f_X2_tasksOn_4 : Nat → Int32 → Int32 → Int32 → sm_M → Option (Int32 × sm_M)
  | 0, _, _, _, _ => none
  | n + 1, v1, v2, v3, σ =>
    if (σ.1 1 0 2) ≤ v3 then
      f_X2_tasksOn_37 v2 σ
    else
      (aP 7 v3).bind fun x1 =>
      if (σ.1 4 x1 4) = v1 then
        f_X2_tasksOn_31 (f_X2_tasksOn_4 n) v1 (v2 ||| ((1 : Int32) <<< (v3 &&& 31))) v3 σ
      else
        f_X2_tasksOn_31 (f_X2_tasksOn_4 n) v1 v2 v3 σ
def f_X2_tasksOn (v1 : Int32) (σ : sm_M) : Option (Int32 × sm_M) :=
  f_X2_tasksOn_4 1000 v1 (0 : Int32) (0 : Int32) σ
def f_X4_waitsStill (a0 : Nat) (v1 : Int32) (σ : sm_M) : Option (Int32 × sm_M) :=
  some ((if (0 : Int32) < ((σ.1 4 a0 9) - v1) then ((σ.1 4 a0 9) - v1) else (0 : Int32)), σ)
def f_X2_countWaiting_34 (v2 : Int32) (σ : sm_M) : Option (Int32 × sm_M) :=
  some (v2, σ)
def f_X2_countWaiting_28 (k4 : Int32 → Int32 → Int32 → sm_M → Option (Int32 × sm_M)) (v1 : Int32) (v2 : Int32) (v3 : Int32) (σ : sm_M) : Option (Int32 × sm_M) :=
  k4 v1 v2 (v3 + 1) σ
def f_X2_countWaiting_4 : Nat → Int32 → Int32 → Int32 → sm_M → Option (Int32 × sm_M)
  | 0, _, _, _, _ => none
  | n + 1, v1, v2, v3, σ =>
    if (σ.1 1 0 2) ≤ v3 then
      f_X2_countWaiting_34 v2 σ
    else
      (aP 7 v3).bind fun x1 =>
      (f_X4_waitsStill x1 v1 σ).bind fun q2 =>
      if q2.1 ≤ 0 then
        f_X2_countWaiting_28 (f_X2_countWaiting_4 n) v1 v2 v3 q2.2
      else
        f_X2_countWaiting_28 (f_X2_countWaiting_4 n) v1 (v2 + 1) v3 q2.2
def f_X2_countWaiting (v1 : Int32) (σ : sm_M) : Option (Int32 × sm_M) :=
  f_X2_countWaiting_4 1000 v1 (0 : Int32) (0 : Int32) σ
def f_X2_isDone_82 (k41 : Int32 → Int32 → Int32 → sm_M → Option (Int32 × sm_M)) (v1 : Int32) (v2 : Int32) (v3 : Int32) (σ : sm_M) : Option (Int32 × sm_M) :=
  k41 v1 v2 (v3 + 1) σ
def f_X2_isDone_41 : Nat → Int32 → Int32 → Int32 → sm_M → Option (Int32 × sm_M)
  | 0, _, _, _, _ => none
  | n + 1, v1, v2, v3, σ =>
    if (σ.1 1 0 3) ≤ v3 then
      if (1 : Int32) = 0 ∨ (1 : Int32) = 1 then some ((1 : Int32), σ) else none
    else
      (aP 8 v3).bind fun x1 =>
      if (σ.1 5 x1 2) = v1 then
        (f_X1_isOverAt x1 (σ.1 5 x1 6) v2 σ).bind fun q2 =>
        if q2.1 = 0 then
          if (0 : Int32) = 0 ∨ (0 : Int32) = 1 then some ((0 : Int32), q2.2) else none
        else
          f_X2_isDone_82 (f_X2_isDone_41 n) v1 v2 v3 q2.2
      else
        f_X2_isDone_82 (f_X2_isDone_41 n) v1 v2 v3 σ
def f_X2_isDone_38 (s0 : Int32) (σ : sm_M) : Option (Int32 × sm_M) :=
  if s0 = 0 ∨ s0 = 1 then some (s0, σ) else none
def f_X2_isDone (v1 : Int32) (v2 : Int32) (σ : sm_M) : Option (Int32 × sm_M) :=
  (aP 7 v1).bind fun x1 =>
  if (σ.1 4 x1 2) = 0 then
    (aP 7 v1).bind fun x2 =>
    (aP 7 v1).bind fun x3 =>
    if (σ.1 4 x2 11) < (σ.1 4 x3 3) then
      f_X2_isDone_38 (0 : Int32) σ
    else
      f_X2_isDone_38 (1 : Int32) σ
  else
    f_X2_isDone_41 1000 v1 v2 (0 : Int32) σ
def f_X2_doneTasks_33 (v1 : Int32) (σ : sm_M) : Option (Int32 × sm_M) :=
  some (v1, σ)
def f_X2_doneTasks_27 (k4 : Int32 → Int32 → sm_M → Option (Int32 × sm_M)) (v1 : Int32) (v2 : Int32) (σ : sm_M) : Option (Int32 × sm_M) :=
  k4 v1 (v2 + 1) σ
def f_X2_doneTasks_4 : Nat → Int32 → Int32 → sm_M → Option (Int32 × sm_M)
  | 0, _, _, _ => none
  | n + 1, v1, v2, σ =>
    if (σ.1 1 0 2) ≤ v2 then
      f_X2_doneTasks_33 v1 σ
    else
      (f_X2_isDone v2 v1 σ).bind fun q1 =>
      if q1.1 = 0 then
        f_X2_doneTasks_27 (f_X2_doneTasks_4 n) v1 v2 q1.2
      else
        f_X2_doneTasks_27 (f_X2_doneTasks_4 n) (v1 ||| ((1 : Int32) <<< (v2 &&& 31))) v2 q1.2
def f_X2_doneTasks (σ : sm_M) : Option (Int32 × sm_M) :=
  f_X2_doneTasks_4 1000 (0 : Int32) (0 : Int32) σ
def f_X2_roomOf_76 (v2 : Int32) (σ : sm_M) : Option (Int32 × sm_M) :=
  some (v2, σ)
def f_X2_roomOf_70 (k32 : Int32 → Int32 → Int32 → sm_M → Option (Int32 × sm_M)) (v1 : Int32) (v2 : Int32) (v3 : Int32) (σ : sm_M) : Option (Int32 × sm_M) :=
  k32 v1 v2 (v3 + 1) σ
def f_X2_roomOf_32 : Nat → Int32 → Int32 → Int32 → sm_M → Option (Int32 × sm_M)
  | 0, _, _, _, _ => none
  | n + 1, v1, v2, v3, σ =>
    if (σ.1 1 0 3) ≤ v3 then
      f_X2_roomOf_76 v2 σ
    else
      (aP 8 v3).bind fun x1 =>
      if (σ.1 5 x1 1) = v1 then
        (aP 8 v3).bind fun x2 =>
        f_X2_roomOf_70 (f_X2_roomOf_32 n) v1 (if ((64 : Int32) - (σ.1 5 x2 5)) < v2 then ((64 : Int32) - (σ.1 5 x2 5)) else v2) v3 σ
      else
        f_X2_roomOf_70 (f_X2_roomOf_32 n) v1 v2 v3 σ
def f_X2_roomOf (v1 : Int32) (σ : sm_M) : Option (Int32 × sm_M) :=
  (aP 7 v1).bind fun x1 =>
  if (σ.1 4 x1 2) = (5 : Int32) then
    (aP 7 v1).bind fun x2 =>
    some (((200 : Int32) - (σ.1 4 x2 13)), σ)
  else
    f_X2_roomOf_32 1000 v1 (64 : Int32) (0 : Int32) σ
def f_X2_give_33 (k2 : Int32 → Int32 → Int32 → sm_M → Option (sm_M)) (v1 : Int32) (v2 : Int32) (v3 : Int32) (σ : sm_M) : Option (sm_M) :=
  k2 v1 v2 (v3 + 1) σ
def f_X2_give_2 : Nat → Int32 → Int32 → Int32 → sm_M → Option (sm_M)
  | 0, _, _, _, _ => none
  | n + 1, v1, v2, v3, σ =>
    if (σ.1 1 0 3) ≤ v3 then
      some σ
    else
      (aP 8 v3).bind fun x1 =>
      if (σ.1 5 x1 1) = v1 then
        (aP 8 v3).bind fun x2 =>
        (f_X1_put x2 v2 σ).bind fun q3 =>
        f_X2_give_33 (f_X2_give_2 n) v1 v2 v3 q3
      else
        f_X2_give_33 (f_X2_give_2 n) v1 v2 v3 σ
def f_X2_give (v1 : Int32) (v2 : Int32) (σ : sm_M) : Option (sm_M) :=
  f_X2_give_2 1000 v1 v2 (0 : Int32) σ
def f_X2_loseAllFrom_47 (k2 : Int32 → Int32 → sm_M → Option (sm_M)) (v1 : Int32) (v2 : Int32) (σ : sm_M) : Option (sm_M) :=
  k2 v1 (v2 + 1) σ
def f_X2_loseAllFrom_2 : Nat → Int32 → Int32 → sm_M → Option (sm_M)
  | 0, _, _, _ => none
  | n + 1, v1, v2, σ =>
    if (σ.1 1 0 3) ≤ v2 then
      some σ
    else
      (aP 8 v2).bind fun x1 =>
      if (σ.1 5 x1 3) = 0 then
        f_X2_loseAllFrom_47 (f_X2_loseAllFrom_2 n) v1 v2 σ
      else
        (aP 8 v2).bind fun x2 =>
        (f_X5_isIn v1 (σ.1 5 x2 1) σ).bind fun q3 =>
        if q3.1 = 0 then
          f_X2_loseAllFrom_47 (f_X2_loseAllFrom_2 n) v1 v2 q3.2
        else
          (aP 8 v2).bind fun x4 =>
          (f_X1_loseBehindMark x4 q3.2).bind fun q5 =>
          f_X2_loseAllFrom_47 (f_X2_loseAllFrom_2 n) v1 v2 q5
def f_X2_loseAllFrom (v1 : Int32) (σ : sm_M) : Option (sm_M) :=
  f_X2_loseAllFrom_2 1000 v1 (0 : Int32) σ
def f_X2_keepAsMark_27 : Nat → Int32 → sm_M → Option (sm_M)
  | 0, _, _ => none
  | n + 1, v1, σ =>
    if (σ.1 1 0 3) ≤ v1 then
      some σ
    else
      (aP 8 v1).bind fun x1 =>
      (f_X1_keepAsMark x1 σ).bind fun q2 =>
      (f_X2_keepAsMark_27 n) (v1 + 1) q2
def f_X2_keepAsMark_25 (σ : sm_M) : Option (sm_M) :=
  f_X2_keepAsMark_27 1000 (0 : Int32) σ
def f_X2_keepAsMark_2 : Nat → Int32 → sm_M → Option (sm_M)
  | 0, _, _ => none
  | n + 1, v1, σ =>
    if (σ.1 1 0 2) ≤ v1 then
      f_X2_keepAsMark_25 σ
    else
      (aP 7 v1).bind fun x1 =>
      (f_X4_keepAsMark x1 σ).bind fun q2 =>
      (f_X2_keepAsMark_2 n) (v1 + 1) q2
def f_X2_keepAsMark (σ : sm_M) : Option (sm_M) :=
  f_X2_keepAsMark_2 1000 (0 : Int32) σ
def f_X2_unsteadyIn_59 (v2 : Int32) (σ : sm_M) : Option (Int32 × sm_M) :=
  some (v2, σ)
def f_X2_unsteadyIn_53 (k4 : Int32 → Int32 → Int32 → sm_M → Option (Int32 × sm_M)) (v1 : Int32) (v2 : Int32) (v3 : Int32) (σ : sm_M) : Option (Int32 × sm_M) :=
  k4 v1 v2 (v3 + 1) σ
def f_X2_unsteadyIn_47 (k4 : Int32 → Int32 → Int32 → sm_M → Option (Int32 × sm_M)) (v1 : Int32) (v2 : Int32) (v3 : Int32) (σ : sm_M) : Option (Int32 × sm_M) :=
  f_X2_unsteadyIn_53 k4 v1 (v2 ||| ((1 : Int32) <<< (v3 &&& 31))) v3 σ
def f_X2_unsteadyIn_4 : Nat → Int32 → Int32 → Int32 → sm_M → Option (Int32 × sm_M)
  | 0, _, _, _, _ => none
  | n + 1, v1, v2, v3, σ =>
    if (σ.1 1 0 2) ≤ v3 then
      f_X2_unsteadyIn_59 v2 σ
    else
      (f_X5_isIn v1 v3 σ).bind fun q1 =>
      if q1.1 = 0 then
        f_X2_unsteadyIn_53 (f_X2_unsteadyIn_4 n) v1 v2 v3 q1.2
      else
        (aP 7 v3).bind fun x2 =>
        if (q1.2.1 4 x2 2) = (4 : Int32) then
          f_X2_unsteadyIn_47 (f_X2_unsteadyIn_4 n) v1 v2 v3 q1.2
        else
          (aP 7 v3).bind fun x3 =>
          if ((q1.2.1 4 x3 5) &&& v2) = 0 then
            f_X2_unsteadyIn_53 (f_X2_unsteadyIn_4 n) v1 v2 v3 q1.2
          else
            f_X2_unsteadyIn_47 (f_X2_unsteadyIn_4 n) v1 v2 v3 q1.2
def f_X2_unsteadyIn (v1 : Int32) (σ : sm_M) : Option (Int32 × sm_M) :=
  f_X2_unsteadyIn_4 1000 v1 (0 : Int32) (0 : Int32) σ
def f_X2_widened_140 (v3 : Int32) (σ : sm_M) : Option (Int32 × sm_M) :=
  some (v3, σ)
def f_X2_widened_134 (k11 : Int32 → Int32 → Int32 → Int32 → sm_M → Option (Int32 × sm_M)) (v1 : Int32) (v2 : Int32) (v3 : Int32) (v4 : Int32) (σ : sm_M) : Option (Int32 × sm_M) :=
  k11 v1 v2 v3 (v4 + 1) σ
def f_X2_widened_124 (k11 : Int32 → Int32 → Int32 → Int32 → sm_M → Option (Int32 × sm_M)) (v1 : Int32) (v2 : Int32) (v3 : Int32) (v4 : Int32) (a5 : Nat) (σ : sm_M) : Option (Int32 × sm_M) :=
  f_X2_widened_134 k11 v1 v2 (v3 ||| ((1 : Int32) <<< ((σ.1 5 a5 1) &&& 31))) v4 σ
def f_X2_widened_96 (k11 : Int32 → Int32 → Int32 → Int32 → sm_M → Option (Int32 × sm_M)) (v1 : Int32) (v2 : Int32) (v3 : Int32) (v4 : Int32) (a5 : Nat) (σ : sm_M) : Option (Int32 × sm_M) :=
  (f_X5_isIn v1 (σ.1 5 a5 2) σ).bind fun q1 =>
  if q1.1 = 0 then
    f_X2_widened_134 k11 v1 v2 v3 v4 q1.2
  else
    if (q1.2.1 5 a5 3) = 0 then
      f_X2_widened_124 k11 v1 v2 v3 v4 a5 q1.2
    else
      if (q1.2.1 5 a5 8) ≤ 0 then
        f_X2_widened_134 k11 v1 v2 v3 v4 q1.2
      else
        f_X2_widened_124 k11 v1 v2 v3 v4 a5 q1.2
def f_X2_widened_86 (k11 : Int32 → Int32 → Int32 → Int32 → sm_M → Option (Int32 × sm_M)) (v1 : Int32) (v2 : Int32) (v3 : Int32) (v4 : Int32) (a5 : Nat) (σ : sm_M) : Option (Int32 × sm_M) :=
  f_X2_widened_96 k11 v1 v2 (v3 ||| ((1 : Int32) <<< ((σ.1 5 a5 2) &&& 31))) v4 a5 σ
def f_X2_widened_59 (k11 : Int32 → Int32 → Int32 → Int32 → sm_M → Option (Int32 × sm_M)) (v1 : Int32) (v2 : Int32) (v3 : Int32) (v4 : Int32) (a5 : Nat) (s0 : Int32) (σ : sm_M) : Option (Int32 × sm_M) :=
  (f_X5_isIn v1 (σ.1 5 a5 1) σ).bind fun q1 =>
  if q1.1 = 0 then
    f_X2_widened_96 k11 v1 v2 v3 v4 a5 q1.2
  else
    if (q1.2.1 5 a5 3) = 0 then
      f_X2_widened_86 k11 v1 v2 v3 v4 a5 q1.2
    else
      if s0 = 0 then
        f_X2_widened_96 k11 v1 v2 v3 v4 a5 q1.2
      else
        f_X2_widened_86 k11 v1 v2 v3 v4 a5 q1.2
def f_X2_widened_58 (k11 : Int32 → Int32 → Int32 → Int32 → sm_M → Option (Int32 × sm_M)) (v1 : Int32) (v2 : Int32) (v3 : Int32) (v4 : Int32) (a5 : Nat) (σ : sm_M) : Option (Int32 × sm_M) :=
  f_X2_widened_59 k11 v1 v2 v3 v4 a5 (0 : Int32) σ
def f_X2_widened_11 : Nat → Int32 → Int32 → Int32 → Int32 → sm_M → Option (Int32 × sm_M)
  | 0, _, _, _, _, _ => none
  | n + 1, v1, v2, v3, v4, σ =>
    if (σ.1 1 0 3) ≤ v4 then
      f_X2_widened_140 v3 σ
    else
      (aP 8 v4).bind fun x1 =>
      (f_X5_isIn v2 (σ.1 5 x1 1) σ).bind fun q2 =>
      if q2.1 = 0 then
        f_X2_widened_58 (f_X2_widened_11 n) v1 v2 v3 v4 x1 q2.2
      else
        (f_X1_settled x1 q2.2).bind fun q3 =>
        if (q2.2.1 5 x1 7) ≤ q3.1 then
          f_X2_widened_58 (f_X2_widened_11 n) v1 v2 v3 v4 x1 q3.2
        else
          f_X2_widened_59 (f_X2_widened_11 n) v1 v2 v3 v4 x1 (1 : Int32) q3.2
def f_X2_widened (v1 : Int32) (σ : sm_M) : Option (Int32 × sm_M) :=
  (f_X2_unsteadyIn v1 σ).bind fun q1 =>
  f_X2_widened_11 1000 v1 q1.1 v1 (0 : Int32) q1.2
def f_X2_regionOf_34 (v2 : Int32) (σ : sm_M) : Option (Int32 × sm_M) :=
  some (v2, σ)
def f_X2_regionOf_23 (v2 : Int32) (σ : sm_M) : Option (Int32 × sm_M) :=
  some (v2, σ)
def f_X2_regionOf_4 : Nat → Int32 → Int32 → sm_M → Option (Int32 × sm_M)
  | 0, _, _, _ => none
  | n + 1, v2, v3, σ =>
    if (16 : Int32) ≤ v3 then
      f_X2_regionOf_34 v2 σ
    else
      (f_X2_widened v2 σ).bind fun q1 =>
      if q1.1 = v2 then
        f_X2_regionOf_23 v2 q1.2
      else
        (f_X2_regionOf_4 n) q1.1 (v3 + 1) q1.2
def f_X2_regionOf (v1 : Int32) (σ : sm_M) : Option (Int32 × sm_M) :=
  f_X2_regionOf_4 1000 v1 (0 : Int32) σ
def f_X4_rewind (a0 : Nat) (v1 : Int32) (σ : sm_M) : Option (sm_M) :=
  (sI 4 11 σ a0 (σ.1 4 a0 14)).bind fun σ1 =>
  (sI 4 12 σ1 a0 (σ1.1 4 a0 15)).bind fun σ2 =>
  (sI 4 13 σ2 a0 (σ2.1 4 a0 16)).bind fun σ3 =>
  (sI 4 9 σ3 a0 (if (σ3.1 4 a0 9) < v1 then v1 else (σ3.1 4 a0 9))).bind fun σ4 =>
  some σ4
def f_X2_rewind_108 (k47 : Int32 → Int32 → Int32 → sm_M → Option (sm_M)) (v1 : Int32) (v3 : Int32) (v4 : Int32) (σ : sm_M) : Option (sm_M) :=
  k47 v1 v3 (v4 + 1) σ
def f_X2_rewind_82 (k47 : Int32 → Int32 → Int32 → sm_M → Option (sm_M)) (v1 : Int32) (v3 : Int32) (v4 : Int32) (a5 : Nat) (σ : sm_M) : Option (sm_M) :=
  (f_X5_isIn v1 (σ.1 5 a5 1) σ).bind fun q1 =>
  if q1.1 = 0 then
    f_X2_rewind_108 k47 v1 v3 v4 q1.2
  else
    (f_X5_isIn v3 (q1.2.1 5 a5 1) q1.2).bind fun q2 =>
    (f_X1_rewindGiver a5 q2.1 q2.2).bind fun q3 =>
    f_X2_rewind_108 k47 v1 v3 v4 q3
def f_X2_rewind_47 : Nat → Int32 → Int32 → Int32 → sm_M → Option (sm_M)
  | 0, _, _, _, _ => none
  | n + 1, v1, v3, v4, σ =>
    if (σ.1 1 0 3) ≤ v4 then
      some σ
    else
      (aP 8 v4).bind fun x1 =>
      (f_X5_isIn v1 (σ.1 5 x1 2) σ).bind fun q2 =>
      if q2.1 = 0 then
        f_X2_rewind_82 (f_X2_rewind_47 n) v1 v3 v4 x1 q2.2
      else
        (f_X1_rewindTaker x1 q2.2).bind fun q3 =>
        f_X2_rewind_82 (f_X2_rewind_47 n) v1 v3 v4 x1 q3
def f_X2_rewind_44 (v1 : Int32) (v3 : Int32) (σ : sm_M) : Option (sm_M) :=
  f_X2_rewind_47 1000 v1 v3 (0 : Int32) σ
def f_X2_rewind_38 (k9 : Int32 → Int32 → Int32 → Int32 → sm_M → Option (sm_M)) (v1 : Int32) (v2 : Int32) (v3 : Int32) (v4 : Int32) (σ : sm_M) : Option (sm_M) :=
  k9 v1 v2 v3 (v4 + 1) σ
def f_X2_rewind_9 : Nat → Int32 → Int32 → Int32 → Int32 → sm_M → Option (sm_M)
  | 0, _, _, _, _, _ => none
  | n + 1, v1, v2, v3, v4, σ =>
    if (σ.1 1 0 2) ≤ v4 then
      f_X2_rewind_44 v1 v3 σ
    else
      (f_X5_isIn v1 v4 σ).bind fun q1 =>
      if q1.1 = 0 then
        f_X2_rewind_38 (f_X2_rewind_9 n) v1 v2 v3 v4 q1.2
      else
        (aP 7 v4).bind fun x2 =>
        (f_X4_rewind x2 v2 q1.2).bind fun q3 =>
        f_X2_rewind_38 (f_X2_rewind_9 n) v1 v2 v3 v4 q3
def f_X2_rewind (v1 : Int32) (v2 : Int32) (σ : sm_M) : Option (sm_M) :=
  (f_X2_unsteadyIn v1 σ).bind fun q1 =>
  f_X2_rewind_9 1000 v1 v2 q1.1 (0 : Int32) q1.2
def f_X3_takesMore_39 (s0 : Int32) (σ : sm_M) : Option (Int32 × sm_M) :=
  if s0 = 0 ∨ s0 = 1 then some (s0, σ) else none
def f_X3_takesMore_38 (σ : sm_M) : Option (Int32 × sm_M) :=
  f_X3_takesMore_39 (0 : Int32) σ
def f_X3_takesMore (a1 : Nat) (σ : sm_M) : Option (Int32 × sm_M) :=
  if (σ.1 2 0 3) = 0 then
    if (σ.1 4 a1 7) ≤ (σ.1 2 0 2) then
      f_X3_takesMore_38 σ
    else
      if (8 : Int32) ≤ (σ.1 2 0 2) then
        f_X3_takesMore_38 σ
      else
        if (σ.1 2 0 4) ≤ 0 then
          f_X3_takesMore_38 σ
        else
          f_X3_takesMore_39 (1 : Int32) σ
  else
    f_X3_takesMore_38 σ
def f_X4_isAside_2 : Nat → Nat → Int32 → Int32 → sm_M → Option (Int32 × sm_M)
  | 0, _, _, _, _ => none
  | n + 1, a0, v1, v2, σ =>
    if (σ.1 4 a0 10) ≤ v2 then
      if (0 : Int32) = 0 ∨ (0 : Int32) = 1 then some ((0 : Int32), σ) else none
    else
      (aI 15 σ a0 v2).bind fun x1 =>
      if x1 = v1 then
        if (1 : Int32) = 0 ∨ (1 : Int32) = 1 then some ((1 : Int32), σ) else none
      else
        (f_X4_isAside_2 n) a0 v1 (v2 + 1) σ
def f_X4_isAside (a0 : Nat) (v1 : Int32) (σ : sm_M) : Option (Int32 × sm_M) :=
  f_X4_isAside_2 1000 a0 v1 (0 : Int32) σ
def f_X4_throwsAt_31 (s0 : Int32) (σ : sm_M) : Option (Int32 × sm_M) :=
  if s0 = 0 ∨ s0 = 1 then some (s0, σ) else none
def f_X4_throwsAt_30 (σ : sm_M) : Option (Int32 × sm_M) :=
  f_X4_throwsAt_31 (0 : Int32) σ
def f_X4_throwsAt (a0 : Nat) (v1 : Int32) (v2 : Int32) (σ : sm_M) : Option (Int32 × sm_M) :=
  if (σ.1 4 a0 6) = (1001 : Int32) then
    f_X4_throwsAt_30 σ
  else
    if v2 = (σ.1 4 a0 6) then
      (f_X4_isAside a0 v1 σ).bind fun q1 =>
      if q1.1 = 0 then
        f_X4_throwsAt_31 (1 : Int32) q1.2
      else
        f_X4_throwsAt_30 q1.2
    else
      f_X4_throwsAt_30 σ
def f_X4_givesFor_29 (s0 : Int32) (σ : sm_M) : Option (Int32 × sm_M) :=
  if s0 = 0 ∨ s0 = 1 then some (s0, σ) else none
def f_X4_givesFor_28 (σ : sm_M) : Option (Int32 × sm_M) :=
  f_X4_givesFor_29 (0 : Int32) σ
def f_X4_givesFor_24 (σ : sm_M) : Option (Int32 × sm_M) :=
  f_X4_givesFor_29 (1 : Int32) σ
def f_X4_givesFor (a0 : Nat) (v1 : Int32) (σ : sm_M) : Option (Int32 × sm_M) :=
  if (σ.1 4 a0 2) = (2 : Int32) then
    if (σ.1 4 a0 3) ≤ 0 then
      f_X4_givesFor_28 σ
    else
      if (σ.1 4 a0 3) = 0 then none else
      if (v1 - v1 / (σ.1 4 a0 3) * (σ.1 4 a0 3)) = 0 then
        f_X4_givesFor_24 σ
      else
        f_X4_givesFor_28 σ
  else
    f_X4_givesFor_24 σ
def f_X3_add_54 (v2 : Int32) (v3 : Int32) (σ : sm_M) : Option (sm_M) :=
  (uI 9 σ 0 (σ.1 2 0 2) v3).bind fun σ1 =>
  (uI 10 σ1 0 (σ1.1 2 0 2) v2).bind fun σ2 =>
  (sI 2 2 σ2 0 ((σ2.1 2 0 2) + (1 : Int32))).bind fun σ3 =>
  some σ3
def f_X3_add (a1 : Nat) (v2 : Int32) (v3 : Int32) (σ : sm_M) : Option (sm_M) :=
  (f_X4_throwsAt a1 ((σ.1 4 a1 11) + (σ.1 2 0 2)) v3 σ).bind fun q1 =>
  if q1.1 = 0 then
    (f_X4_isAside a1 ((σ.1 4 a1 11) + (σ.1 2 0 2)) q1.2).bind fun q2 =>
    if q2.1 = 0 then
      (f_X4_givesFor a1 v3 q2.2).bind fun q3 =>
      if q3.1 = 0 then
        f_X3_add_54 v2 v3 q3.2
      else
        (sI 2 4 q3.2 0 ((q3.2.1 2 0 4) - (1 : Int32))).bind fun σ4 =>
        f_X3_add_54 v2 v3 σ4
    else
      f_X3_add_54 v2 v3 q2.2
  else
    (sZ 2 3 q1.2 0 (1 : Int32)).bind fun σ5 =>
    some σ5
def f_X3_fillFromSource_5 : Nat → Nat → Int32 → Int32 → sm_M → Option (sm_M)
  | 0, _, _, _, _ => none
  | n + 1, a1, v2, v3, σ =>
    if (σ.1 4 a1 3) ≤ v3 then
      some σ
    else
      (f_X3_takesMore a1 σ).bind fun q1 =>
      if q1.1 = 0 then
        some q1.2
      else
        if (20 : Int32) = 0 then none else
        (f_X3_add a1 (-9 : Int32) ((((5 : Int32) * v2) + ((3 : Int32) * v3)) - (((5 : Int32) * v2) + ((3 : Int32) * v3)) / (20 : Int32) * (20 : Int32)) q1.2).bind fun q2 =>
        (f_X3_fillFromSource_5 n) a1 v2 (v3 + 1) q2
def f_X3_fillFromSource (a1 : Nat) (v2 : Int32) (σ : sm_M) : Option (sm_M) :=
  f_X3_fillFromSource_5 1000 a1 v2 (σ.1 4 a1 11) σ
def f_X3_fillFromChannels_104 (k16 : Int32 → Nat → Int32 → Int32 → sm_M → Option (sm_M)) (v2 : Int32) (a3 : Nat) (v4 : Int32) (v5 : Int32) (σ : sm_M) : Option (sm_M) :=
  k16 v2 a3 v4 (v5 + 1) σ
def f_X3_fillFromChannels_91 (k16 : Int32 → Nat → Int32 → Int32 → sm_M → Option (sm_M)) (v2 : Int32) (a3 : Nat) (v4 : Int32) (v5 : Int32) (a6 : Nat) (v7 : Int32) (σ : sm_M) : Option (sm_M) :=
  (f_X1_isOverAt a6 v7 v4 σ).bind fun q1 =>
  if q1.1 = 0 then
    some q1.2
  else
    f_X3_fillFromChannels_104 k16 v2 a3 v4 v5 q1.2
def f_X3_fillFromChannels_50 (k16 : Int32 → Nat → Int32 → Int32 → sm_M → Option (sm_M)) : Nat → Int32 → Nat → Int32 → Int32 → Nat → Int32 → sm_M → Option (sm_M)
  | 0, _, _, _, _, _, _, _ => none
  | n + 1, v2, a3, v4, v5, a6, v7, σ =>
    (f_X1_offersAt a6 v7 v4 σ).bind fun q1 =>
    if q1.1 = 0 then
      f_X3_fillFromChannels_91 k16 v2 a3 v4 v5 a6 v7 q1.2
    else
      (f_X3_takesMore a3 q1.2).bind fun q2 =>
      if q2.1 = 0 then
        f_X3_fillFromChannels_91 k16 v2 a3 v4 v5 a6 v7 q2.2
      else
        (aI 16 q2.2 a6 v7).bind fun x3 =>
        (f_X3_add a3 v5 x3 q2.2).bind fun q4 =>
        (f_X3_fillFromChannels_50 k16 n) v2 a3 v4 v5 a6 (v7 + 1) q4
def f_X3_fillFromChannels_16 : Nat → Int32 → Nat → Int32 → Int32 → sm_M → Option (sm_M)
  | 0, _, _, _, _, _ => none
  | n + 1, v2, a3, v4, v5, σ =>
    if (σ.1 1 0 3) ≤ v5 then
      some σ
    else
      (aP 8 v5).bind fun x1 =>
      if (σ.1 5 x1 2) = v2 then
        f_X3_fillFromChannels_50 (f_X3_fillFromChannels_16 n) 1000 v2 a3 v4 v5 x1 (σ.1 5 x1 6) σ
      else
        f_X3_fillFromChannels_104 (f_X3_fillFromChannels_16 n) v2 a3 v4 v5 σ
def f_X3_fillFromChannels (v2 : Int32) (σ : sm_M) : Option (sm_M) :=
  (aP 7 v2).bind fun x1 =>
  (f_X2_doneTasks σ).bind fun q2 =>
  f_X3_fillFromChannels_16 1000 v2 x1 q2.1 (0 : Int32) q2.2
def f_X3_fill (v2 : Int32) (σ : sm_M) : Option (sm_M) :=
  (sI 2 2 σ 0 (0 : Int32)).bind fun σ1 =>
  (sZ 2 3 σ1 0 (0 : Int32)).bind fun σ2 =>
  (f_X2_roomOf v2 σ2).bind fun q3 =>
  (sI 2 4 q3.2 0 q3.1).bind fun σ4 =>
  (aP 7 v2).bind fun x5 =>
  if (σ4.1 4 x5 2) = 0 then
    (aP 7 v2).bind fun x7 =>
    (f_X3_fillFromSource x7 v2 σ4).bind fun q8 =>
    some q8
  else
    (f_X3_fillFromChannels v2 σ4).bind fun q6 =>
    some q6
def f_X4_narrowAfterThrow (a0 : Nat) (v1 : Int32) (σ : sm_M) : Option (sm_M) :=
  if (σ.1 4 a0 7) ≤ (1 : Int32) then
    if v1 = 0 then
      some σ
    else
      if (8 : Int32) ≤ (σ.1 4 a0 10) then
        some σ
      else
        (uI 15 σ a0 (σ.1 4 a0 10) (σ.1 4 a0 11)).bind fun σ1 =>
        (sI 4 10 σ1 a0 ((σ1.1 4 a0 10) + (1 : Int32))).bind fun σ2 =>
        (sI 4 7 σ2 a0 (8 : Int32)).bind fun σ3 =>
        some σ3
  else
    if (2 : Int32) = 0 then none else
    (sI 4 7 σ a0 ((σ.1 4 a0 7) / (2 : Int32))).bind fun σ4 =>
    some σ4
def f_X4_putOut (a0 : Nat) (v1 : Int32) (σ : sm_M) : Option (sm_M) :=
  if (200 : Int32) ≤ (σ.1 4 a0 13) then
    some σ
  else
    (uI 14 σ a0 (σ.1 4 a0 13) v1).bind fun σ1 =>
    (sI 4 13 σ1 a0 ((σ1.1 4 a0 13) + (1 : Int32))).bind fun σ2 =>
    some σ2
def f_X5_isNode_14 (s0 : Int32) (σ : sm_M) : Option (Int32 × sm_M) :=
  if s0 = 0 ∨ s0 = 1 then some (s0, σ) else none
def f_X5_isNode_13 (σ : sm_M) : Option (Int32 × sm_M) :=
  f_X5_isNode_14 (0 : Int32) σ
def f_X5_isNode (v0 : Int32) (σ : sm_M) : Option (Int32 × sm_M) :=
  if v0 < 0 then
    f_X5_isNode_13 σ
  else
    if (4 : Int32) ≤ v0 then
      f_X5_isNode_13 σ
    else
      f_X5_isNode_14 (1 : Int32) σ
def f_X5_mayBe_93 (s0 : Int32) (σ : sm_M) : Option (Int32 × sm_M) :=
  if s0 = 0 ∨ s0 = 1 then some (s0, σ) else none
def f_X5_mayBe_92 (σ : sm_M) : Option (Int32 × sm_M) :=
  f_X5_mayBe_93 (0 : Int32) σ
def f_X5_mayBe_77 (s0 : Int32) (σ : sm_M) : Option (Int32 × sm_M) :=
  if s0 = 0 ∨ s0 = 1 then some (s0, σ) else none
def f_X5_mayBe_76 (σ : sm_M) : Option (Int32 × sm_M) :=
  f_X5_mayBe_77 (0 : Int32) σ
def f_X5_mayBe_61 (s0 : Int32) (σ : sm_M) : Option (Int32 × sm_M) :=
  if s0 = 0 ∨ s0 = 1 then some (s0, σ) else none
def f_X5_mayBe_60 (σ : sm_M) : Option (Int32 × sm_M) :=
  f_X5_mayBe_61 (0 : Int32) σ
def f_X5_mayBe_43 (s0 : Int32) (σ : sm_M) : Option (Int32 × sm_M) :=
  if s0 = 0 ∨ s0 = 1 then some (s0, σ) else none
def f_X5_mayBe_42 (σ : sm_M) : Option (Int32 × sm_M) :=
  f_X5_mayBe_43 (0 : Int32) σ
def f_X5_mayBe (v0 : Int32) (v1 : Int32) (σ : sm_M) : Option (Int32 × sm_M) :=
  if v0 = 0 then
    if v1 < 0 then
      f_X5_mayBe_42 σ
    else
      if (20 : Int32) < v1 then
        f_X5_mayBe_42 σ
      else
        f_X5_mayBe_43 (1 : Int32) σ
  else
    if v0 = 1 then
      if v1 < (-20 : Int32) then
        f_X5_mayBe_60 σ
      else
        if (20 : Int32) < v1 then
          f_X5_mayBe_60 σ
        else
          f_X5_mayBe_61 (1 : Int32) σ
    else
      if v0 = 2 then
        if v1 < (1 : Int32) then
          f_X5_mayBe_76 σ
        else
          if (5 : Int32) < v1 then
            f_X5_mayBe_76 σ
          else
            f_X5_mayBe_77 (1 : Int32) σ
      else
        if v0 < (3 : Int32) then
          f_X5_mayBe_92 σ
        else
          if (5 : Int32) < v0 then
            f_X5_mayBe_92 σ
          else
            f_X5_mayBe_93 (1 : Int32) σ
def f_X5_task (v1 : Int32) (v2 : Int32) (v3 : Int32) (σ : sm_M) : Option (Int32 × sm_M) :=
  (f_X5_isNode v3 σ).bind fun q1 =>
  if q1.1 = 0 then
    some ((-1 : Int32), q1.2)
  else
    (aI 6 q1.2 0 v3).bind fun x2 =>
    if x2 = 0 then
      some ((-1 : Int32), q1.2)
    else
      (f_X5_mayBe v1 v2 q1.2).bind fun q3 =>
      if q3.1 = 0 then
        some ((-2 : Int32), q3.2)
      else
        if (q3.2.1 0 0 11) = 0 then
          if (q3.2.1 1 0 2) < (16 : Int32) then
            (f_X2_addTask v1 v2 v3 q3.2).bind fun q4 =>
            some (q4.1, q4.2)
          else
            some ((-4 : Int32), q3.2)
        else
          some ((-3 : Int32), q3.2)
def f_X5_channel_60 (σ : sm_M) : Option (Int32 × sm_M) :=
  some ((-2 : Int32), σ)
def f_X5_channel (v1 : Int32) (v2 : Int32) (v3 : Int32) (σ : sm_M) : Option (Int32 × sm_M) :=
  (f_X2_hasTask v1 σ).bind fun q1 =>
  if q1.1 = 0 then
    some ((-1 : Int32), q1.2)
  else
    (f_X2_hasTask v2 q1.2).bind fun q2 =>
    if q2.1 = 0 then
      some ((-1 : Int32), q2.2)
    else
      if v2 ≤ v1 then
        f_X5_channel_60 q2.2
      else
        (aP 7 v1).bind fun x3 =>
        if (q2.2.1 4 x3 2) = (5 : Int32) then
          f_X5_channel_60 q2.2
        else
          (aP 7 v2).bind fun x4 =>
          if (q2.2.1 4 x4 2) = 0 then
            f_X5_channel_60 q2.2
          else
            if (q2.2.1 0 0 11) = 0 then
              if (q2.2.1 1 0 3) < (40 : Int32) then
                (f_X2_addChannel v1 v2 v3 q2.2).bind fun q5 =>
                some (q5.1, q5.2)
              else
                some ((-4 : Int32), q2.2)
            else
              some ((-3 : Int32), q2.2)
def f_X5_poison_27 (σ : sm_M) : Option (Int32 × sm_M) :=
  some ((-2 : Int32), σ)
def f_X5_poison (v1 : Int32) (v2 : Int32) (σ : sm_M) : Option (Int32 × sm_M) :=
  (f_X2_hasTask v1 σ).bind fun q1 =>
  if q1.1 = 0 then
    some ((-1 : Int32), q1.2)
  else
    if v2 < (-1000 : Int32) then
      f_X5_poison_27 q1.2
    else
      if v2 ≤ (1000 : Int32) then
        if (q1.2.1 0 0 11) = 0 then
          (aP 7 v1).bind fun x2 =>
          (aP 7 v1).bind fun x3 =>
          (sI 4 6 q1.2 x3 v2).bind fun σ4 =>
          some ((q1.2.1 4 x2 6), σ4)
        else
          some ((-3 : Int32), q1.2)
      else
        f_X5_poison_27 q1.2
def f_X5_rule_11 (σ : sm_M) : Option (Int32 × sm_M) :=
  some ((-2 : Int32), σ)
def f_X5_rule (v1 : Int32) (v2 : Int32) (σ : sm_M) : Option (Int32 × sm_M) :=
  if v1 < (1 : Int32) then
    f_X5_rule_11 σ
  else
    if v1 ≤ (9 : Int32) then
      (sI 0 4 σ 0 v1).bind fun σ1 =>
      (sZ 0 5 σ1 0 v2).bind fun σ2 =>
      some ((σ.1 0 0 4), σ2)
    else
      f_X5_rule_11 σ
def f_X5_blameAll_96 (v3 : Int32) (σ : sm_M) : Option (Int32 × sm_M) :=
  some (v3, σ)
def f_X5_blameAll_83 (v3 : Int32) (σ : sm_M) : Option (Int32 × sm_M) :=
  if v3 ≤ (σ.1 0 0 4) then
    f_X5_blameAll_96 v3 σ
  else
    (sZ 0 12 σ 0 (1 : Int32)).bind fun σ1 =>
    f_X5_blameAll_96 v3 σ1
def f_X5_blameAll_77 (k5 : Int32 → Int32 → Int32 → Int32 → sm_M → Option (Int32 × sm_M)) (v1 : Int32) (v2 : Int32) (v3 : Int32) (v4 : Int32) (σ : sm_M) : Option (Int32 × sm_M) :=
  k5 v1 v2 v3 (v4 + 1) σ
def f_X5_blameAll_5 : Nat → Int32 → Int32 → Int32 → Int32 → sm_M → Option (Int32 × sm_M)
  | 0, _, _, _, _, _ => none
  | n + 1, v1, v2, v3, v4, σ =>
    if (σ.1 1 0 2) ≤ v4 then
      f_X5_blameAll_83 v3 σ
    else
      (f_X5_isIn v1 v4 σ).bind fun q1 =>
      if q1.1 = 0 then
        f_X5_blameAll_77 (f_X5_blameAll_5 n) v1 v2 v3 v4 q1.2
      else
        (f_X0_putDown v4 (q1.2.1 0 0 6) v2 q1.2).bind fun q2 =>
        (aP 7 v4).bind fun x3 =>
        (sI 4 8 q2 x3 ((q2.1 4 x3 8) + (1 : Int32))).bind fun σ4 =>
        (aP 7 v4).bind fun x5 =>
        f_X5_blameAll_77 (f_X5_blameAll_5 n) v1 v2 (if v3 < (σ4.1 4 x5 8) then (σ4.1 4 x5 8) else v3) v4 σ4
def f_X5_blameAll (v1 : Int32) (v2 : Int32) (σ : sm_M) : Option (Int32 × sm_M) :=
  f_X5_blameAll_5 1000 v1 v2 (0 : Int32) (0 : Int32) σ
def f_X5_waitAfter_25 (s0 : Int32) (σ : sm_M) : Option (Int32 × sm_M) :=
  some (s0, σ)
def f_X5_waitAfter_10 (σ : sm_M) : Option (Int32 × sm_M) :=
  f_X5_waitAfter_25 (16 : Int32) σ
def f_X5_waitAfter (v0 : Int32) (σ : sm_M) : Option (Int32 × sm_M) :=
  if v0 < (1 : Int32) then
    f_X5_waitAfter_10 σ
  else
    if v0 ≤ (5 : Int32) then
      f_X5_waitAfter_25 (if ((1 : Int32) <<< ((v0 - (1 : Int32)) &&& 31)) < (16 : Int32) then ((1 : Int32) <<< ((v0 - (1 : Int32)) &&& 31)) else (16 : Int32)) σ
    else
      f_X5_waitAfter_10 σ
def f_J6_bitCount_0f7a4 (v0 : Int32) (σ : sm_M) : Option (Int32 × sm_M) :=
  some (((((((((v0 - ((v0.toUInt32 >>> ((1 : Int32).toUInt32 &&& Int32.toUInt32 31)).toInt32 &&& (1431655765 : Int32))) &&& (858993459 : Int32)) + (((v0 - ((v0.toUInt32 >>> ((1 : Int32).toUInt32 &&& Int32.toUInt32 31)).toInt32 &&& (1431655765 : Int32))).toUInt32 >>> ((2 : Int32).toUInt32 &&& Int32.toUInt32 31)).toInt32 &&& (858993459 : Int32))) + ((((v0 - ((v0.toUInt32 >>> ((1 : Int32).toUInt32 &&& Int32.toUInt32 31)).toInt32 &&& (1431655765 : Int32))) &&& (858993459 : Int32)) + (((v0 - ((v0.toUInt32 >>> ((1 : Int32).toUInt32 &&& Int32.toUInt32 31)).toInt32 &&& (1431655765 : Int32))).toUInt32 >>> ((2 : Int32).toUInt32 &&& Int32.toUInt32 31)).toInt32 &&& (858993459 : Int32))).toUInt32 >>> ((4 : Int32).toUInt32 &&& Int32.toUInt32 31)).toInt32) &&& (252645135 : Int32)) + ((((((v0 - ((v0.toUInt32 >>> ((1 : Int32).toUInt32 &&& Int32.toUInt32 31)).toInt32 &&& (1431655765 : Int32))) &&& (858993459 : Int32)) + (((v0 - ((v0.toUInt32 >>> ((1 : Int32).toUInt32 &&& Int32.toUInt32 31)).toInt32 &&& (1431655765 : Int32))).toUInt32 >>> ((2 : Int32).toUInt32 &&& Int32.toUInt32 31)).toInt32 &&& (858993459 : Int32))) + ((((v0 - ((v0.toUInt32 >>> ((1 : Int32).toUInt32 &&& Int32.toUInt32 31)).toInt32 &&& (1431655765 : Int32))) &&& (858993459 : Int32)) + (((v0 - ((v0.toUInt32 >>> ((1 : Int32).toUInt32 &&& Int32.toUInt32 31)).toInt32 &&& (1431655765 : Int32))).toUInt32 >>> ((2 : Int32).toUInt32 &&& Int32.toUInt32 31)).toInt32 &&& (858993459 : Int32))).toUInt32 >>> ((4 : Int32).toUInt32 &&& Int32.toUInt32 31)).toInt32) &&& (252645135 : Int32)).toUInt32 >>> ((8 : Int32).toUInt32 &&& Int32.toUInt32 31)).toInt32) + (((((((v0 - ((v0.toUInt32 >>> ((1 : Int32).toUInt32 &&& Int32.toUInt32 31)).toInt32 &&& (1431655765 : Int32))) &&& (858993459 : Int32)) + (((v0 - ((v0.toUInt32 >>> ((1 : Int32).toUInt32 &&& Int32.toUInt32 31)).toInt32 &&& (1431655765 : Int32))).toUInt32 >>> ((2 : Int32).toUInt32 &&& Int32.toUInt32 31)).toInt32 &&& (858993459 : Int32))) + ((((v0 - ((v0.toUInt32 >>> ((1 : Int32).toUInt32 &&& Int32.toUInt32 31)).toInt32 &&& (1431655765 : Int32))) &&& (858993459 : Int32)) + (((v0 - ((v0.toUInt32 >>> ((1 : Int32).toUInt32 &&& Int32.toUInt32 31)).toInt32 &&& (1431655765 : Int32))).toUInt32 >>> ((2 : Int32).toUInt32 &&& Int32.toUInt32 31)).toInt32 &&& (858993459 : Int32))).toUInt32 >>> ((4 : Int32).toUInt32 &&& Int32.toUInt32 31)).toInt32) &&& (252645135 : Int32)) + ((((((v0 - ((v0.toUInt32 >>> ((1 : Int32).toUInt32 &&& Int32.toUInt32 31)).toInt32 &&& (1431655765 : Int32))) &&& (858993459 : Int32)) + (((v0 - ((v0.toUInt32 >>> ((1 : Int32).toUInt32 &&& Int32.toUInt32 31)).toInt32 &&& (1431655765 : Int32))).toUInt32 >>> ((2 : Int32).toUInt32 &&& Int32.toUInt32 31)).toInt32 &&& (858993459 : Int32))) + ((((v0 - ((v0.toUInt32 >>> ((1 : Int32).toUInt32 &&& Int32.toUInt32 31)).toInt32 &&& (1431655765 : Int32))) &&& (858993459 : Int32)) + (((v0 - ((v0.toUInt32 >>> ((1 : Int32).toUInt32 &&& Int32.toUInt32 31)).toInt32 &&& (1431655765 : Int32))).toUInt32 >>> ((2 : Int32).toUInt32 &&& Int32.toUInt32 31)).toInt32 &&& (858993459 : Int32))).toUInt32 >>> ((4 : Int32).toUInt32 &&& Int32.toUInt32 31)).toInt32) &&& (252645135 : Int32)).toUInt32 >>> ((8 : Int32).toUInt32 &&& Int32.toUInt32 31)).toInt32).toUInt32 >>> ((16 : Int32).toUInt32 &&& Int32.toUInt32 31)).toInt32) &&& (63 : Int32)), σ)
def f_X5_beginAgain (v1 : Int32) (v2 : Int32) (σ : sm_M) : Option (Int32 × sm_M) :=
  (f_X2_regionOf v1 σ).bind fun q1 =>
  (f_X5_waitAfter v2 q1.2).bind fun q2 =>
  (f_X2_rewind q1.1 ((q1.2.1 0 0 6) + q2.1) q2.2).bind fun q3 =>
  (f_J6_bitCount_0f7a4 q1.1 q3).bind fun q4 =>
  (sI 0 10 q4.2 0 ((q4.2.1 0 0 10) + q4.1)).bind fun σ5 =>
  some (q4.1, σ5)
def f_X5_failAlone_28 (s0 : Int32) (σ : sm_M) : Option (Int32 × sm_M) :=
  some (s0, σ)
def f_X5_failAlone (v1 : Int32) (v2 : Int32) (σ : sm_M) : Option (Int32 × sm_M) :=
  (f_X5_blameAll ((1 : Int32) <<< (v1 &&& 31)) v2 σ).bind fun q1 =>
  if (q1.2.1 0 0 12) = 0 then
    (f_X5_beginAgain ((1 : Int32) <<< (v1 &&& 31)) q1.1 q1.2).bind fun q2 =>
    f_X5_failAlone_28 q2.1 q2.2
  else
    f_X5_failAlone_28 (0 : Int32) q1.2
def f_X5_work_136 (v1 : Int32) (v2 : Int32) (a3 : Nat) (σ : sm_M) : Option (sm_M) :=
  (f_X4_givesFor a3 v2 σ).bind fun q1 =>
  if q1.1 = 0 then
    some q1.2
  else
    (f_X2_give v1 v2 q1.2).bind fun q2 =>
    some q2
def f_X5_work (v1 : Int32) (v2 : Int32) (σ : sm_M) : Option (sm_M) :=
  (aP 7 v1).bind fun x1 =>
  if (σ.1 4 x1 2) = 1 then
    (f_X2_give v1 (v2 + (σ.1 4 x1 3)) σ).bind fun q2 =>
    some q2
  else
    if (σ.1 4 x1 2) = 2 then
      f_X5_work_136 v1 v2 x1 σ
    else
      if (σ.1 4 x1 2) = 3 then
        (sI 4 12 σ x1 ((σ.1 4 x1 12) + v2)).bind fun σ3 =>
        (f_X2_give v1 (σ3.1 4 x1 12) σ3).bind fun q4 =>
        some q4
      else
        if (σ.1 4 x1 2) = 4 then
          if (2147483647 : Int64) = 0 then none else
          (sJ 0 7 σ 0 (((σ.2 0 0 7) * (16807 : Int64)) - ((σ.2 0 0 7) * (16807 : Int64)) / (2147483647 : Int64) * (2147483647 : Int64))).bind fun σ5 =>
          if (10 : Int64) = 0 then none else
          (f_X2_give v1 (v2 + ((σ5.2 0 0 7) - (σ5.2 0 0 7) / (10 : Int64) * (10 : Int64)).toInt32) σ5).bind fun q6 =>
          some q6
        else
          if (σ.1 4 x1 2) = 5 then
            (f_X4_putOut x1 v2 σ).bind fun q7 =>
            some q7
          else
            f_X5_work_136 v1 v2 x1 σ
def f_X5_carryOut_106 (k12 : Int32 → Nat → Int32 → sm_M → Option (sm_M)) (v1 : Int32) (a2 : Nat) (v3 : Int32) (σ : sm_M) : Option (sm_M) :=
  k12 v1 a2 (v3 + 1) σ
def f_X5_carryOut_75 (k12 : Int32 → Nat → Int32 → sm_M → Option (sm_M)) (v1 : Int32) (a2 : Nat) (v3 : Int32) (s0 : Int32) (σ : sm_M) : Option (sm_M) :=
  (sI 4 11 σ a2 ((σ.1 4 a2 11) + (1 : Int32))).bind fun σ1 =>
  if s0 = 0 then
    f_X5_carryOut_106 k12 v1 a2 v3 σ1
  else
    (aI 9 σ1 0 v3).bind fun x2 =>
    (f_X5_work v1 x2 σ1).bind fun q3 =>
    f_X5_carryOut_106 k12 v1 a2 v3 q3
def f_X5_carryOut_59 (k12 : Int32 → Nat → Int32 → sm_M → Option (sm_M)) (v1 : Int32) (a2 : Nat) (v3 : Int32) (σ : sm_M) : Option (sm_M) :=
  (f_X4_isAside a2 (σ.1 4 a2 11) σ).bind fun q1 =>
  if q1.1 = 0 then
    f_X5_carryOut_75 k12 v1 a2 v3 (1 : Int32) q1.2
  else
    f_X5_carryOut_75 k12 v1 a2 v3 (0 : Int32) q1.2
def f_X5_carryOut_12 : Nat → Int32 → Nat → Int32 → sm_M → Option (sm_M)
  | 0, _, _, _, _ => none
  | n + 1, v1, a2, v3, σ =>
    if (σ.1 2 0 2) ≤ v3 then
      some σ
    else
      (aI 10 σ 0 v3).bind fun x1 =>
      (f_X2_hasChannel x1 σ).bind fun q2 =>
      if q2.1 = 0 then
        f_X5_carryOut_59 (f_X5_carryOut_12 n) v1 a2 v3 q2.2
      else
        (aP 8 x1).bind fun x3 =>
        (f_X1_takeOne x3 q2.2).bind fun q4 =>
        f_X5_carryOut_59 (f_X5_carryOut_12 n) v1 a2 v3 q4
def f_X5_carryOut (v1 : Int32) (σ : sm_M) : Option (sm_M) :=
  (aP 7 v1).bind fun x1 =>
  f_X5_carryOut_12 1000 v1 x1 (0 : Int32) σ
def f_X5_step_39 (σ : sm_M) : Option (Int32 × sm_M) :=
  some ((-3 : Int32), σ)
def f_X5_step (v1 : Int32) (σ : sm_M) : Option (Int32 × sm_M) :=
  (f_X2_hasTask v1 σ).bind fun q1 =>
  if q1.1 = 0 then
    some ((-1 : Int32), q1.2)
  else
    if (q1.2.1 0 0 12) = 0 then
      (aP 7 v1).bind fun x2 =>
      (f_X4_waitsStill x2 (q1.2.1 0 0 6) q1.2).bind fun q3 =>
      if q3.1 ≤ 0 then
        (sZ 0 11 q3.2 0 (1 : Int32)).bind fun σ4 =>
        (f_X3_fill v1 σ4).bind fun q5 =>
        if (q5.1 2 0 3) = 0 then
          (sI 0 9 q5 0 ((q5.1 0 0 9) + (1 : Int32))).bind fun σ6 =>
          (f_X5_carryOut v1 σ6).bind fun q7 =>
          some ((q7.1 2 0 2), q7)
        else
          (aP 7 v1).bind fun x8 =>
          (f_X4_narrowAfterThrow x8 (q5.1 0 0 5) q5).bind fun q9 =>
          (f_X5_failAlone v1 (0 : Int32) q9).bind fun q10 =>
          some ((-5 : Int32), q10.2)
      else
        f_X5_step_39 q3.2
    else
      f_X5_step_39 q1.2
def f_X5_fail (v1 : Int32) (σ : sm_M) : Option (Int32 × sm_M) :=
  (f_X2_hasTask v1 σ).bind fun q1 =>
  if q1.1 = 0 then
    some ((-1 : Int32), q1.2)
  else
    if (q1.2.1 0 0 12) = 0 then
      (f_X5_failAlone v1 (1 : Int32) q1.2).bind fun q2 =>
      some (q2.1, q2.2)
    else
      some ((-3 : Int32), q1.2)
def f_X5_nodesThere_27 (v1 : Int32) (σ : sm_M) : Option (Int32 × sm_M) :=
  some (v1, σ)
def f_X5_nodesThere_21 (k4 : Int32 → Int32 → sm_M → Option (Int32 × sm_M)) (v1 : Int32) (v2 : Int32) (σ : sm_M) : Option (Int32 × sm_M) :=
  k4 v1 (v2 + 1) σ
def f_X5_nodesThere_4 : Nat → Int32 → Int32 → sm_M → Option (Int32 × sm_M)
  | 0, _, _, _ => none
  | n + 1, v1, v2, σ =>
    if (4 : Int32) ≤ v2 then
      f_X5_nodesThere_27 v1 σ
    else
      (aI 6 σ 0 v2).bind fun x1 =>
      if x1 = 0 then
        f_X5_nodesThere_21 (f_X5_nodesThere_4 n) v1 v2 σ
      else
        f_X5_nodesThere_21 (f_X5_nodesThere_4 n) (v1 + 1) v2 σ
def f_X5_nodesThere (σ : sm_M) : Option (Int32 × sm_M) :=
  f_X5_nodesThere_4 1000 (0 : Int32) (0 : Int32) σ
def f_X5_emptiestNode_56 (v2 : Int32) (σ : sm_M) : Option (Int32 × sm_M) :=
  some (v2, σ)
def f_X5_emptiestNode_50 (k8 : Int32 → Int32 → Int32 → sm_M → Option (Int32 × sm_M)) (v2 : Int32) (v3 : Int32) (v4 : Int32) (σ : sm_M) : Option (Int32 × sm_M) :=
  k8 v2 v3 (v4 + 1) σ
def f_X5_emptiestNode_8 : Nat → Int32 → Int32 → Int32 → sm_M → Option (Int32 × sm_M)
  | 0, _, _, _, _ => none
  | n + 1, v2, v3, v4, σ =>
    if (4 : Int32) ≤ v4 then
      f_X5_emptiestNode_56 v2 σ
    else
      (f_X2_tasksOn v4 σ).bind fun q1 =>
      (f_J6_bitCount_0f7a4 q1.1 q1.2).bind fun q2 =>
      (aI 6 q2.2 0 v4).bind fun x3 =>
      if x3 = 0 then
        f_X5_emptiestNode_50 (f_X5_emptiestNode_8 n) v2 v3 v4 q2.2
      else
        if v3 ≤ q2.1 then
          f_X5_emptiestNode_50 (f_X5_emptiestNode_8 n) v2 v3 v4 q2.2
        else
          f_X5_emptiestNode_50 (f_X5_emptiestNode_8 n) v4 q2.1 v4 q2.2
def f_X5_emptiestNode (v1 : Int32) (σ : sm_M) : Option (Int32 × sm_M) :=
  f_X5_emptiestNode_8 1000 v1 (17 : Int32) (0 : Int32) σ
def f_X5_moveAway_49 (k2 : Int32 → Int32 → sm_M → Option (sm_M)) (v1 : Int32) (v2 : Int32) (σ : sm_M) : Option (sm_M) :=
  k2 v1 (v2 + 1) σ
def f_X5_moveAway_2 : Nat → Int32 → Int32 → sm_M → Option (sm_M)
  | 0, _, _, _ => none
  | n + 1, v1, v2, σ =>
    if (σ.1 1 0 2) ≤ v2 then
      some σ
    else
      (f_X5_isIn v1 v2 σ).bind fun q1 =>
      if q1.1 = 0 then
        f_X5_moveAway_49 (f_X5_moveAway_2 n) v1 v2 q1.2
      else
        (aP 7 v2).bind fun x2 =>
        (aP 7 v2).bind fun x3 =>
        (f_X5_emptiestNode (q1.2.1 4 x3 4) q1.2).bind fun q4 =>
        (sI 4 4 q4.2 x2 q4.1).bind fun σ5 =>
        f_X5_moveAway_49 (f_X5_moveAway_2 n) v1 v2 σ5
def f_X5_moveAway (v1 : Int32) (σ : sm_M) : Option (sm_M) :=
  f_X5_moveAway_2 1000 v1 (0 : Int32) σ
def f_X5_gone_33 (σ : sm_M) : Option (Int32 × sm_M) :=
  some ((-3 : Int32), σ)
def f_X5_gone (v1 : Int32) (σ : sm_M) : Option (Int32 × sm_M) :=
  (f_X5_isNode v1 σ).bind fun q1 =>
  if q1.1 = 0 then
    some ((-1 : Int32), q1.2)
  else
    (aI 6 q1.2 0 v1).bind fun x2 =>
    if x2 = 0 then
      f_X5_gone_33 q1.2
    else
      (f_X5_nodesThere q1.2).bind fun q3 =>
      if q3.1 ≤ (1 : Int32) then
        f_X5_gone_33 q3.2
      else
        if (q3.2.1 0 0 12) = 0 then
          (uZ 6 q3.2 0 v1 (0 : Int32)).bind fun σ4 =>
          (f_X2_tasksOn v1 σ4).bind fun q5 =>
          (f_X5_blameAll q5.1 (2 : Int32) q5.2).bind fun q6 =>
          if (q6.2.1 0 0 12) = 0 then
            (f_X5_moveAway q5.1 q6.2).bind fun q7 =>
            (f_X2_loseAllFrom q5.1 q7).bind fun q8 =>
            (f_X5_beginAgain q5.1 q6.1 q8).bind fun q9 =>
            some (q9.1, q9.2)
          else
            some ((0 : Int32), q6.2)
        else
          f_X5_gone_33 q3.2
def f_X5_lose_37 (σ : sm_M) : Option (Int32 × sm_M) :=
  some ((-3 : Int32), σ)
def f_X5_lose (v1 : Int32) (σ : sm_M) : Option (Int32 × sm_M) :=
  (f_X2_hasChannel v1 σ).bind fun q1 =>
  if q1.1 = 0 then
    some ((-1 : Int32), q1.2)
  else
    (aP 8 v1).bind fun x2 =>
    if (q1.2.1 5 x2 3) = 0 then
      f_X5_lose_37 q1.2
    else
      if (q1.2.1 0 0 12) = 0 then
        (f_X1_loseBehindMark x2 q1.2).bind fun q3 =>
        if (q3.1 5 x2 8) = 0 then
          some ((0 : Int32), q3)
        else
          if (q3.1 5 x2 6) < (q3.1 5 x2 4) then
            (f_X5_failAlone (q3.1 5 x2 1) (3 : Int32) q3).bind fun q4 =>
            some (q4.1, q4.2)
          else
            some ((0 : Int32), q3)
      else
        f_X5_lose_37 q1.2
def f_X5_tick_11 (σ : sm_M) : Option (Int32 × sm_M) :=
  some ((-2 : Int32), σ)
def f_X5_tick (v1 : Int32) (σ : sm_M) : Option (Int32 × sm_M) :=
  if v1 < (1 : Int32) then
    f_X5_tick_11 σ
  else
    if v1 ≤ (100 : Int32) then
      (sI 0 6 σ 0 (if ((σ.1 0 0 6) + v1) < (1000000 : Int32) then ((σ.1 0 0 6) + v1) else (1000000 : Int32))).bind fun σ1 =>
      some ((σ1.1 0 0 6), σ1)
    else
      f_X5_tick_11 σ
def f_X5_mark_21 (σ : sm_M) : Option (Int32 × sm_M) :=
  some ((-3 : Int32), σ)
def f_X5_mark (σ : sm_M) : Option (Int32 × sm_M) :=
  if (σ.1 0 0 12) = 0 then
    (f_X2_countWaiting (σ.1 0 0 6) σ).bind fun q1 =>
    if q1.1 ≤ 0 then
      (f_X2_keepAsMark q1.2).bind fun q2 =>
      (sI 0 8 q2 0 ((q2.1 0 0 8) + (1 : Int32))).bind fun σ3 =>
      some ((σ3.1 0 0 8), σ3)
    else
      f_X5_mark_21 q1.2
  else
    f_X5_mark_21 σ
def f_X5_region (v1 : Int32) (σ : sm_M) : Option (Int32 × sm_M) :=
  (f_X2_hasTask v1 σ).bind fun q1 =>
  if q1.1 = 0 then
    some ((-1 : Int32), q1.2)
  else
    (f_X2_regionOf ((1 : Int32) <<< (v1 &&& 31)) q1.2).bind fun q2 =>
    some (q2.1, q2.2)
def f_X5_asNumber_9 (s0 : Int32) (σ : sm_M) : Option (Int32 × sm_M) :=
  some (s0, σ)
def f_X5_asNumber (v0 : Int32) (σ : sm_M) : Option (Int32 × sm_M) :=
  if v0 = 0 then
    f_X5_asNumber_9 (0 : Int32) σ
  else
    f_X5_asNumber_9 (1 : Int32) σ
def f_X5_taskAt (v1 : Int32) (v2 : Int32) (σ : sm_M) : Option (Int32 × sm_M) :=
  (f_X2_hasTask v1 σ).bind fun q1 =>
  if q1.1 = 0 then
    some ((-1 : Int32), q1.2)
  else
    (aP 7 v1).bind fun x2 =>
    if v2 = 0 then
      some ((q1.2.1 4 x2 2), q1.2)
    else
      if v2 = 1 then
        some ((q1.2.1 4 x2 4), q1.2)
      else
        if v2 = 2 then
          some ((q1.2.1 4 x2 11), q1.2)
        else
          if v2 = 3 then
            some ((q1.2.1 4 x2 12), q1.2)
          else
            if v2 = 4 then
              some ((q1.2.1 4 x2 7), q1.2)
            else
              if v2 = 5 then
                some ((q1.2.1 4 x2 8), q1.2)
              else
                if v2 = 6 then
                  (f_X4_waitsStill x2 (q1.2.1 0 0 6) q1.2).bind fun q3 =>
                  some (q3.1, q3.2)
                else
                  if v2 = 7 then
                    (f_X2_doneTasks q1.2).bind fun q4 =>
                    (f_X5_isIn q4.1 v1 q4.2).bind fun q5 =>
                    (f_X5_asNumber q5.1 q5.2).bind fun q6 =>
                    some (q6.1, q6.2)
                  else
                    if v2 = 8 then
                      some ((q1.2.1 4 x2 13), q1.2)
                    else
                      if v2 = 9 then
                        some ((q1.2.1 4 x2 10), q1.2)
                      else
                        some ((-2 : Int32), q1.2)
def f_X5_channelAt (v1 : Int32) (v2 : Int32) (σ : sm_M) : Option (Int32 × sm_M) :=
  (f_X2_hasChannel v1 σ).bind fun q1 =>
  if q1.1 = 0 then
    some ((-1 : Int32), q1.2)
  else
    (aP 8 v1).bind fun x2 =>
    if v2 = 0 then
      some ((q1.2.1 5 x2 1), q1.2)
    else
      if v2 = 1 then
        some ((q1.2.1 5 x2 2), q1.2)
      else
        if v2 = 2 then
          (f_X5_asNumber (q1.2.1 5 x2 3) q1.2).bind fun q3 =>
          some (q3.1, q3.2)
        else
          if v2 = 3 then
            some ((q1.2.1 5 x2 4), q1.2)
          else
            if v2 = 4 then
              some ((q1.2.1 5 x2 5), q1.2)
            else
              if v2 = 5 then
                some ((q1.2.1 5 x2 6), q1.2)
              else
                if v2 = 6 then
                  some ((q1.2.1 5 x2 8), q1.2)
                else
                  if v2 = 7 then
                    (f_X2_doneTasks q1.2).bind fun q4 =>
                    (f_X1_isOverAt x2 (q1.2.1 5 x2 6) q4.1 q4.2).bind fun q5 =>
                    (f_X5_asNumber q5.1 q5.2).bind fun q6 =>
                    some (q6.1, q6.2)
                  else
                    if v2 = 8 then
                      some ((q1.2.1 5 x2 7), q1.2)
                    else
                      some ((-2 : Int32), q1.2)
def f_X5_row_46 (s0 : Int32) (σ : sm_M) : Option (Int32 × sm_M) :=
  some (s0, σ)
def f_X5_row_44 (σ : sm_M) : Option (Int32 × sm_M) :=
  f_X5_row_46 (-9 : Int32) σ
def f_X5_row (v1 : Int32) (v2 : Int32) (σ : sm_M) : Option (Int32 × sm_M) :=
  (f_X2_hasChannel v1 σ).bind fun q1 =>
  if q1.1 = 0 then
    some ((-1 : Int32), q1.2)
  else
    (aP 8 v1).bind fun x2 =>
    if v2 < 0 then
      f_X5_row_44 q1.2
    else
      if (q1.2.1 5 x2 4) ≤ v2 then
        f_X5_row_44 q1.2
      else
        (aI 16 q1.2 x2 v2).bind fun x3 =>
        f_X5_row_46 x3 q1.2
def f_X5_out_46 (s0 : Int32) (σ : sm_M) : Option (Int32 × sm_M) :=
  some (s0, σ)
def f_X5_out_44 (σ : sm_M) : Option (Int32 × sm_M) :=
  f_X5_out_46 (-9 : Int32) σ
def f_X5_out (v1 : Int32) (v2 : Int32) (σ : sm_M) : Option (Int32 × sm_M) :=
  (f_X2_hasTask v1 σ).bind fun q1 =>
  if q1.1 = 0 then
    some ((-1 : Int32), q1.2)
  else
    (aP 7 v1).bind fun x2 =>
    if v2 < 0 then
      f_X5_out_44 q1.2
    else
      if (q1.2.1 4 x2 13) ≤ v2 then
        f_X5_out_44 q1.2
      else
        (aI 14 q1.2 x2 v2).bind fun x3 =>
        f_X5_out_46 x3 q1.2
def f_X5_aside_46 (s0 : Int32) (σ : sm_M) : Option (Int32 × sm_M) :=
  some (s0, σ)
def f_X5_aside_44 (σ : sm_M) : Option (Int32 × sm_M) :=
  f_X5_aside_46 (-9 : Int32) σ
def f_X5_aside (v1 : Int32) (v2 : Int32) (σ : sm_M) : Option (Int32 × sm_M) :=
  (f_X2_hasTask v1 σ).bind fun q1 =>
  if q1.1 = 0 then
    some ((-1 : Int32), q1.2)
  else
    (aP 7 v1).bind fun x2 =>
    if v2 < 0 then
      f_X5_aside_44 q1.2
    else
      if (q1.2.1 4 x2 10) ≤ v2 then
        f_X5_aside_44 q1.2
      else
        (aI 15 q1.2 x2 v2).bind fun x3 =>
        f_X5_aside_46 x3 q1.2
def f_X5_cause_27 (σ : sm_M) : Option (Int32 × sm_M) :=
  some ((-9 : Int32), σ)
def f_X5_cause_9 (σ : sm_M) : Option (Int32 × sm_M) :=
  some ((-2 : Int32), σ)
def f_X5_cause (v1 : Int32) (v2 : Int32) (σ : sm_M) : Option (Int32 × sm_M) :=
  if v2 < 0 then
    f_X5_cause_9 σ
  else
    if v2 ≤ (2 : Int32) then
      if v1 < 0 then
        f_X5_cause_27 σ
      else
        if v1 < (σ.1 3 0 3) then
          if v2 = 0 then
            (aI 11 σ 0 v1).bind fun x1 =>
            some (x1, σ)
          else
            if v2 = 1 then
              (aI 12 σ 0 v1).bind fun x2 =>
              some (x2, σ)
            else
              (aI 13 σ 0 v1).bind fun x3 =>
              some (x3, σ)
        else
          f_X5_cause_27 σ
    else
      f_X5_cause_9 σ
def f_X5_told (v1 : Int32) (σ : sm_M) : Option (Int32 × sm_M) :=
  if v1 = 0 then
    some ((σ.1 1 0 2), σ)
  else
    if v1 = 1 then
      some ((σ.1 1 0 3), σ)
    else
      if v1 = 2 then
        some ((σ.1 0 0 9), σ)
      else
        if v1 = 3 then
          some ((σ.1 0 0 6), σ)
        else
          if v1 = 4 then
            some ((σ.1 0 0 8), σ)
          else
            if v1 = 5 then
              some ((σ.1 3 0 3), σ)
            else
              if v1 = 6 then
                (f_X5_asNumber (σ.1 0 0 12) σ).bind fun q1 =>
                some (q1.1, q1.2)
              else
                if v1 = 7 then
                  (f_X2_countWaiting (σ.1 0 0 6) σ).bind fun q2 =>
                  some (q2.1, q2.2)
                else
                  if v1 = 8 then
                    (f_X2_doneTasks σ).bind fun q3 =>
                    (f_J6_bitCount_0f7a4 q3.1 q3.2).bind fun q4 =>
                    some (q4.1, q4.2)
                  else
                    if v1 = 9 then
                      (f_X5_nodesThere σ).bind fun q5 =>
                      some (q5.1, q5.2)
                    else
                      if v1 = 10 then
                        some ((σ.1 0 0 10), σ)
                      else
                        some ((-2 : Int32), σ)
def f_X5_startAnew_44 (σ : sm_M) : Option (sm_M) :=
  (sI 0 4 σ 0 (3 : Int32)).bind fun σ1 =>
  (sZ 0 5 σ1 0 (0 : Int32)).bind fun σ2 =>
  (sI 0 6 σ2 0 (0 : Int32)).bind fun σ3 =>
  (sJ 0 7 σ3 0 (1 : Int64)).bind fun σ4 =>
  (sI 0 8 σ4 0 (0 : Int32)).bind fun σ5 =>
  (sI 0 9 σ5 0 (0 : Int32)).bind fun σ6 =>
  (sI 0 10 σ6 0 (0 : Int32)).bind fun σ7 =>
  (sZ 0 11 σ7 0 (0 : Int32)).bind fun σ8 =>
  (sZ 0 12 σ8 0 (0 : Int32)).bind fun σ9 =>
  some σ9
def f_X5_startAnew_26 : Nat → Int32 → sm_M → Option (sm_M)
  | 0, _, _ => none
  | n + 1, v1, σ =>
    if (4 : Int32) ≤ v1 then
      f_X5_startAnew_44 σ
    else
      (uZ 6 σ 0 v1 (1 : Int32)).bind fun σ1 =>
      (f_X5_startAnew_26 n) (v1 + 1) σ1
def f_X5_startAnew (σ : sm_M) : Option (sm_M) :=
  (sI 1 2 σ 0 (0 : Int32)).bind fun σ1 =>
  (sI 1 3 σ1 0 (0 : Int32)).bind fun σ2 =>
  (sI 3 3 σ2 0 (0 : Int32)).bind fun σ3 =>
  f_X5_startAnew_26 1000 (0 : Int32) σ3
def f_X5_clear (σ : sm_M) : Option (Int32 × sm_M) :=
  (f_X5_startAnew σ).bind fun q1 =>
  some ((σ.1 1 0 2), q1)
end
section
def f_X6_in_15 (s0 : Int32) (σ : sm_M) : Option (Int32 × sm_M) :=
  if s0 = 0 ∨ s0 = 1 then some (s0, σ) else none
def f_X6_in_14 (σ : sm_M) : Option (Int32 × sm_M) :=
  f_X6_in_15 (0 : Int32) σ
def f_X6_in (v0 : Int32) (v1 : Int32) (v2 : Int32) (σ : sm_M) : Option (Int32 × sm_M) :=
  if v0 < v1 then
    f_X6_in_14 σ
  else
    if v2 < v0 then
      f_X6_in_14 σ
    else
      f_X6_in_15 (1 : Int32) σ
def f_X6_begin_30 (σ : sm_M) : Option (sm_M) :=
  (sI 20 32 σ 0 (3 : Int32)).bind fun σ1 =>
  (sZ 20 33 σ1 0 (0 : Int32)).bind fun σ2 =>
  (sI 20 34 σ2 0 (1 : Int32)).bind fun σ3 =>
  (sI 20 35 σ3 0 (0 : Int32)).bind fun σ4 =>
  (sI 20 36 σ4 0 (0 : Int32)).bind fun σ5 =>
  (sZ 20 37 σ5 0 (0 : Int32)).bind fun σ6 =>
  (sI 20 38 σ6 0 (0 : Int32)).bind fun σ7 =>
  (sI 20 39 σ7 0 (0 : Int32)).bind fun σ8 =>
  (sZ 20 43 σ8 0 (0 : Int32)).bind fun σ9 =>
  (sI 20 44 σ9 0 (0 : Int32)).bind fun σ10 =>
  some σ10
def f_X6_begin_12 : Nat → Int32 → sm_M → Option (sm_M)
  | 0, _, _ => none
  | n + 1, v1, σ =>
    if (4 : Int32) ≤ v1 then
      f_X6_begin_30 σ
    else
      (uZ 50 σ 0 v1 (0 : Int32)).bind fun σ1 =>
      (f_X6_begin_12 n) (v1 + 1) σ1
def f_X6_begin (σ : sm_M) : Option (sm_M) :=
  (sI 20 0 σ 0 (0 : Int32)).bind fun σ1 =>
  (sI 20 14 σ1 0 (0 : Int32)).bind fun σ2 =>
  f_X6_begin_12 1000 (0 : Int32) σ2
def f_X6_noTask_19 (s0 : Int32) (σ : sm_M) : Option (Int32 × sm_M) :=
  if s0 = 0 ∨ s0 = 1 then some (s0, σ) else none
def f_X6_noTask (v1 : Int32) (σ : sm_M) : Option (Int32 × sm_M) :=
  (f_X6_in v1 (0 : Int32) ((σ.1 20 0 0) - (1 : Int32)) σ).bind fun q1 =>
  if q1.1 = 0 then
    f_X6_noTask_19 (1 : Int32) q1.2
  else
    f_X6_noTask_19 (0 : Int32) q1.2
def f_X6_noChannel_19 (s0 : Int32) (σ : sm_M) : Option (Int32 × sm_M) :=
  if s0 = 0 ∨ s0 = 1 then some (s0, σ) else none
def f_X6_noChannel (v1 : Int32) (σ : sm_M) : Option (Int32 × sm_M) :=
  (f_X6_in v1 (0 : Int32) ((σ.1 20 0 14) - (1 : Int32)) σ).bind fun q1 =>
  if q1.1 = 0 then
    f_X6_noChannel_19 (1 : Int32) q1.2
  else
    f_X6_noChannel_19 (0 : Int32) q1.2
def f_X6_noNode_14 (s0 : Int32) (σ : sm_M) : Option (Int32 × sm_M) :=
  if s0 = 0 ∨ s0 = 1 then some (s0, σ) else none
def f_X6_noNode (v1 : Int32) (σ : sm_M) : Option (Int32 × sm_M) :=
  (f_X6_in v1 (0 : Int32) (3 : Int32) σ).bind fun q1 =>
  if q1.1 = 0 then
    f_X6_noNode_14 (1 : Int32) q1.2
  else
    f_X6_noNode_14 (0 : Int32) q1.2
def f_X6_task_81 (v1 : Int32) (v2 : Int32) (v3 : Int32) (s0 : Int32) (σ : sm_M) : Option (Int32 × sm_M) :=
  if s0 = 0 then
    some ((-2 : Int32), σ)
  else
    if (σ.1 20 0 37) = 0 then
      if (σ.1 20 0 0) = (16 : Int32) then
        some ((-4 : Int32), σ)
      else
        (uI 21 σ 0 (σ.1 20 0 0) v1).bind fun σ1 =>
        (uI 22 σ1 0 (σ.1 20 0 0) v2).bind fun σ2 =>
        (uI 23 σ2 0 (σ.1 20 0 0) v3).bind fun σ3 =>
        (uI 24 σ3 0 (σ.1 20 0 0) (0 : Int32)).bind fun σ4 =>
        (uI 25 σ4 0 (σ.1 20 0 0) (0 : Int32)).bind fun σ5 =>
        (uI 26 σ5 0 (σ.1 20 0 0) (0 : Int32)).bind fun σ6 =>
        (uI 28 σ6 0 (σ.1 20 0 0) (1001 : Int32)).bind fun σ7 =>
        (uI 29 σ7 0 (σ.1 20 0 0) (8 : Int32)).bind fun σ8 =>
        (uI 30 σ8 0 (σ.1 20 0 0) (0 : Int32)).bind fun σ9 =>
        (uI 31 σ9 0 (σ.1 20 0 0) (0 : Int32)).bind fun σ10 =>
        (uI 32 σ10 0 (σ.1 20 0 0) (0 : Int32)).bind fun σ11 =>
        (uI 44 σ11 0 (σ.1 20 0 0) (0 : Int32)).bind fun σ12 =>
        (uI 45 σ12 0 (σ.1 20 0 0) (0 : Int32)).bind fun σ13 =>
        (uI 46 σ13 0 (σ.1 20 0 0) (0 : Int32)).bind fun σ14 =>
        (sI 20 0 σ14 0 ((σ14.1 20 0 0) + (1 : Int32))).bind fun σ15 =>
        some ((σ.1 20 0 0), σ15)
    else
      some ((-3 : Int32), σ)
def f_X6_task_80 (v1 : Int32) (v2 : Int32) (v3 : Int32) (σ : sm_M) : Option (Int32 × sm_M) :=
  f_X6_task_81 v1 v2 v3 (0 : Int32) σ
def f_X6_task_76 (v1 : Int32) (v2 : Int32) (v3 : Int32) (σ : sm_M) : Option (Int32 × sm_M) :=
  f_X6_task_81 v1 v2 v3 (1 : Int32) σ
def f_X6_task_62 (v1 : Int32) (v2 : Int32) (v3 : Int32) (σ : sm_M) : Option (Int32 × sm_M) :=
  if v1 = (2 : Int32) then
    (f_X6_in v2 (1 : Int32) (5 : Int32) σ).bind fun q1 =>
    if q1.1 = 0 then
      f_X6_task_80 v1 v2 v3 q1.2
    else
      f_X6_task_76 v1 v2 v3 q1.2
  else
    f_X6_task_76 v1 v2 v3 σ
def f_X6_task_46 (v1 : Int32) (v2 : Int32) (v3 : Int32) (σ : sm_M) : Option (Int32 × sm_M) :=
  if v1 = (1 : Int32) then
    (f_X6_in v2 (-20 : Int32) (20 : Int32) σ).bind fun q1 =>
    if q1.1 = 0 then
      f_X6_task_80 v1 v2 v3 q1.2
    else
      f_X6_task_62 v1 v2 v3 q1.2
  else
    f_X6_task_62 v1 v2 v3 σ
def f_X6_task (v1 : Int32) (v2 : Int32) (v3 : Int32) (σ : sm_M) : Option (Int32 × sm_M) :=
  (f_X6_noNode v3 σ).bind fun q1 =>
  if q1.1 = 0 then
    (aI 50 q1.2 0 v3).bind fun x2 =>
    if x2 = 0 then
      (f_X6_in v1 (0 : Int32) (5 : Int32) q1.2).bind fun q3 =>
      if q3.1 = 0 then
        f_X6_task_80 v1 v2 v3 q3.2
      else
        if v1 = 0 then
          (f_X6_in v2 (0 : Int32) (20 : Int32) q3.2).bind fun q4 =>
          if q4.1 = 0 then
            f_X6_task_80 v1 v2 v3 q4.2
          else
            f_X6_task_46 v1 v2 v3 q4.2
        else
          f_X6_task_46 v1 v2 v3 q3.2
    else
      some ((-1 : Int32), q1.2)
  else
    some ((-1 : Int32), q1.2)
def f_X6_channel_42 (σ : sm_M) : Option (Int32 × sm_M) :=
  some ((-2 : Int32), σ)
def f_X6_channel (v1 : Int32) (v2 : Int32) (v3 : Int32) (σ : sm_M) : Option (Int32 × sm_M) :=
  (f_X6_noTask v1 σ).bind fun q1 =>
  if q1.1 = 0 then
    (f_X6_noTask v2 q1.2).bind fun q2 =>
    if q2.1 = 0 then
      if v2 ≤ v1 then
        f_X6_channel_42 q2.2
      else
        (aI 21 q2.2 0 v1).bind fun x3 =>
        if x3 = (5 : Int32) then
          f_X6_channel_42 q2.2
        else
          (aI 21 q2.2 0 v2).bind fun x4 =>
          if x4 = 0 then
            f_X6_channel_42 q2.2
          else
            if (q2.2.1 20 0 37) = 0 then
              if (q2.2.1 20 0 14) = (40 : Int32) then
                some ((-4 : Int32), q2.2)
              else
                (uI 34 q2.2 0 (q2.2.1 20 0 14) v1).bind fun σ5 =>
                (uI 35 σ5 0 (q2.2.1 20 0 14) v2).bind fun σ6 =>
                (uZ 36 σ6 0 (q2.2.1 20 0 14) v3).bind fun σ7 =>
                (uI 38 σ7 0 (q2.2.1 20 0 14) (0 : Int32)).bind fun σ8 =>
                (uI 39 σ8 0 (q2.2.1 20 0 14) (0 : Int32)).bind fun σ9 =>
                (uI 40 σ9 0 (q2.2.1 20 0 14) (0 : Int32)).bind fun σ10 =>
                (uI 41 σ10 0 (q2.2.1 20 0 14) (0 : Int32)).bind fun σ11 =>
                (uZ 42 σ11 0 (q2.2.1 20 0 14) (0 : Int32)).bind fun σ12 =>
                (uI 47 σ12 0 (q2.2.1 20 0 14) (0 : Int32)).bind fun σ13 =>
                (uI 48 σ13 0 (q2.2.1 20 0 14) (0 : Int32)).bind fun σ14 =>
                (uI 49 σ14 0 (q2.2.1 20 0 14) (0 : Int32)).bind fun σ15 =>
                (sI 20 14 σ15 0 ((σ15.1 20 0 14) + (1 : Int32))).bind fun σ16 =>
                some ((q2.2.1 20 0 14), σ16)
            else
              some ((-3 : Int32), q2.2)
    else
      some ((-1 : Int32), q2.2)
  else
    some ((-1 : Int32), q1.2)
def f_X6_poison (v1 : Int32) (v2 : Int32) (σ : sm_M) : Option (Int32 × sm_M) :=
  (f_X6_noTask v1 σ).bind fun q1 =>
  if q1.1 = 0 then
    (f_X6_in v2 (-1000 : Int32) (1000 : Int32) q1.2).bind fun q2 =>
    if q2.1 = 0 then
      some ((-2 : Int32), q2.2)
    else
      if (q2.2.1 20 0 37) = 0 then
        (aI 28 q2.2 0 v1).bind fun x3 =>
        (uI 28 q2.2 0 v1 v2).bind fun σ4 =>
        some (x3, σ4)
      else
        some ((-3 : Int32), q2.2)
  else
    some ((-1 : Int32), q1.2)
def f_X6_rule (v1 : Int32) (v2 : Int32) (σ : sm_M) : Option (Int32 × sm_M) :=
  (f_X6_in v1 (1 : Int32) (9 : Int32) σ).bind fun q1 =>
  if q1.1 = 0 then
    some ((-2 : Int32), q1.2)
  else
    (sI 20 32 q1.2 0 v1).bind fun σ2 =>
    (sZ 20 33 σ2 0 v2).bind fun σ3 =>
    some ((q1.2.1 20 0 32), σ3)
def f_X6_findDone_105 (k2 : Int32 → sm_M → Option (sm_M)) (v1 : Int32) (v2 : Int32) (σ : sm_M) : Option (sm_M) :=
  (uZ 54 σ 0 v1 v2).bind fun σ1 =>
  k2 (v1 + 1) σ1
def f_X6_findDone_98 (k2 : Int32 → sm_M → Option (sm_M)) (k42 : Int32 → Int32 → Int32 → sm_M → Option (sm_M)) (v1 : Int32) (v3 : Int32) (s0 : Int32) (σ : sm_M) : Option (sm_M) :=
  k42 v1 s0 (v3 + 1) σ
def f_X6_findDone_97 (k2 : Int32 → sm_M → Option (sm_M)) (k42 : Int32 → Int32 → Int32 → sm_M → Option (sm_M)) (v1 : Int32) (v3 : Int32) (σ : sm_M) : Option (sm_M) :=
  f_X6_findDone_98 k2 k42 v1 v3 (0 : Int32) σ
def f_X6_findDone_93 (k2 : Int32 → sm_M → Option (sm_M)) (k42 : Int32 → Int32 → Int32 → sm_M → Option (sm_M)) (v1 : Int32) (v3 : Int32) (σ : sm_M) : Option (sm_M) :=
  f_X6_findDone_98 k2 k42 v1 v3 (1 : Int32) σ
def f_X6_findDone_42 (k2 : Int32 → sm_M → Option (sm_M)) : Nat → Int32 → Int32 → Int32 → sm_M → Option (sm_M)
  | 0, _, _, _, _ => none
  | n + 1, v1, v2, v3, σ =>
    if (σ.1 20 0 14) ≤ v3 then
      f_X6_findDone_105 k2 v1 v2 σ
    else
      if v2 = 0 then
        f_X6_findDone_97 k2 (f_X6_findDone_42 k2 n) v1 v3 σ
      else
        (aI 35 σ 0 v3).bind fun x1 =>
        if x1 = v1 then
          (aI 34 σ 0 v3).bind fun x2 =>
          (aI 54 σ 0 x2).bind fun x3 =>
          if x3 = 0 then
            f_X6_findDone_97 k2 (f_X6_findDone_42 k2 n) v1 v3 σ
          else
            (aI 40 σ 0 v3).bind fun x4 =>
            (aI 39 σ 0 v3).bind fun x5 =>
            if x4 < x5 then
              f_X6_findDone_97 k2 (f_X6_findDone_42 k2 n) v1 v3 σ
            else
              f_X6_findDone_93 k2 (f_X6_findDone_42 k2 n) v1 v3 σ
        else
          f_X6_findDone_93 k2 (f_X6_findDone_42 k2 n) v1 v3 σ
def f_X6_findDone_39 (k2 : Int32 → sm_M → Option (sm_M)) (v1 : Int32) (s0 : Int32) (σ : sm_M) : Option (sm_M) :=
  f_X6_findDone_42 k2 1000 v1 s0 (0 : Int32) σ
def f_X6_findDone_34 (k2 : Int32 → sm_M → Option (sm_M)) (v1 : Int32) (σ : sm_M) : Option (sm_M) :=
  f_X6_findDone_39 k2 v1 (1 : Int32) σ
def f_X6_findDone_2 : Nat → Int32 → sm_M → Option (sm_M)
  | 0, _, _ => none
  | n + 1, v1, σ =>
    if (σ.1 20 0 0) ≤ v1 then
      some σ
    else
      (aI 21 σ 0 v1).bind fun x1 =>
      if x1 = 0 then
        (aI 24 σ 0 v1).bind fun x2 =>
        (aI 22 σ 0 v1).bind fun x3 =>
        if x2 = x3 then
          f_X6_findDone_34 (f_X6_findDone_2 n) v1 σ
        else
          f_X6_findDone_39 (f_X6_findDone_2 n) v1 (0 : Int32) σ
      else
        f_X6_findDone_34 (f_X6_findDone_2 n) v1 σ
def f_X6_findDone (σ : sm_M) : Option (sm_M) :=
  f_X6_findDone_2 1000 (0 : Int32) σ
def f_X6_isOver_34 (s0 : Int32) (σ : sm_M) : Option (Int32 × sm_M) :=
  if s0 = 0 ∨ s0 = 1 then some (s0, σ) else none
def f_X6_isOver_33 (σ : sm_M) : Option (Int32 × sm_M) :=
  f_X6_isOver_34 (0 : Int32) σ
def f_X6_isOver (v1 : Int32) (σ : sm_M) : Option (Int32 × sm_M) :=
  (aI 34 σ 0 v1).bind fun x1 =>
  (aI 54 σ 0 x1).bind fun x2 =>
  if x2 = 0 then
    f_X6_isOver_33 σ
  else
    (aI 40 σ 0 v1).bind fun x3 =>
    (aI 39 σ 0 v1).bind fun x4 =>
    if x3 < x4 then
      f_X6_isOver_33 σ
    else
      f_X6_isOver_34 (1 : Int32) σ
def f_X6_ready_39 (s0 : Int32) (σ : sm_M) : Option (Int32 × sm_M) :=
  some (s0, σ)
def f_X6_ready_33 (v1 : Int32) (σ : sm_M) : Option (Int32 × sm_M) :=
  (aI 38 σ 0 v1).bind fun x1 =>
  f_X6_ready_39 x1 σ
def f_X6_ready (v1 : Int32) (σ : sm_M) : Option (Int32 × sm_M) :=
  (aI 42 σ 0 v1).bind fun x1 =>
  if x1 = 0 then
    f_X6_ready_33 v1 σ
  else
    (aI 40 σ 0 v1).bind fun x2 =>
    (aI 43 σ 0 v1).bind fun x3 =>
    if x3 ≤ x2 then
      f_X6_ready_33 v1 σ
    else
      (aI 47 σ 0 v1).bind fun x4 =>
      f_X6_ready_39 x4 σ
def f_X6_isAside_48 (v3 : Int32) (σ : sm_M) : Option (Int32 × sm_M) :=
  if v3 = 0 ∨ v3 = 1 then some (v3, σ) else none
def f_X6_isAside_41 (k5 : Int32 → Int32 → Int32 → Int32 → sm_M → Option (Int32 × sm_M)) (v1 : Int32) (v2 : Int32) (v4 : Int32) (s0 : Int32) (σ : sm_M) : Option (Int32 × sm_M) :=
  k5 v1 v2 s0 (v4 + 1) σ
def f_X6_isAside_36 (k5 : Int32 → Int32 → Int32 → Int32 → sm_M → Option (Int32 × sm_M)) (v1 : Int32) (v2 : Int32) (v4 : Int32) (σ : sm_M) : Option (Int32 × sm_M) :=
  f_X6_isAside_41 k5 v1 v2 v4 (1 : Int32) σ
def f_X6_isAside_5 : Nat → Int32 → Int32 → Int32 → Int32 → sm_M → Option (Int32 × sm_M)
  | 0, _, _, _, _, _ => none
  | n + 1, v1, v2, v3, v4, σ =>
    (aI 32 σ 0 v1).bind fun x1 =>
    if x1 ≤ v4 then
      f_X6_isAside_48 v3 σ
    else
      if v3 = 0 then
        (aI 33 σ 0 (((8 : Int32) * v1) + v4)).bind fun x2 =>
        if x2 = v2 then
          f_X6_isAside_36 (f_X6_isAside_5 n) v1 v2 v4 σ
        else
          f_X6_isAside_41 (f_X6_isAside_5 n) v1 v2 v4 (0 : Int32) σ
      else
        f_X6_isAside_36 (f_X6_isAside_5 n) v1 v2 v4 σ
def f_X6_isAside (v1 : Int32) (v2 : Int32) (σ : sm_M) : Option (Int32 × sm_M) :=
  f_X6_isAside_5 1000 v1 v2 (0 : Int32) (0 : Int32) σ
def f_X6_canGive_75 (v2 : Int32) (σ : sm_M) : Option (Int32 × sm_M) :=
  if v2 = 0 ∨ v2 = 1 then some (v2, σ) else none
def f_X6_canGive_68 (k30 : Int32 → Int32 → Int32 → sm_M → Option (Int32 × sm_M)) (v1 : Int32) (v3 : Int32) (s0 : Int32) (σ : sm_M) : Option (Int32 × sm_M) :=
  k30 v1 s0 (v3 + 1) σ
def f_X6_canGive_67 (k30 : Int32 → Int32 → Int32 → sm_M → Option (Int32 × sm_M)) (v1 : Int32) (v3 : Int32) (σ : sm_M) : Option (Int32 × sm_M) :=
  f_X6_canGive_68 k30 v1 v3 (0 : Int32) σ
def f_X6_canGive_63 (k30 : Int32 → Int32 → Int32 → sm_M → Option (Int32 × sm_M)) (v1 : Int32) (v3 : Int32) (σ : sm_M) : Option (Int32 × sm_M) :=
  f_X6_canGive_68 k30 v1 v3 (1 : Int32) σ
def f_X6_canGive_30 : Nat → Int32 → Int32 → Int32 → sm_M → Option (Int32 × sm_M)
  | 0, _, _, _, _ => none
  | n + 1, v1, v2, v3, σ =>
    if (σ.1 20 0 14) ≤ v3 then
      f_X6_canGive_75 v2 σ
    else
      if v2 = 0 then
        f_X6_canGive_67 (f_X6_canGive_30 n) v1 v3 σ
      else
        (aI 34 σ 0 v3).bind fun x1 =>
        if x1 = v1 then
          (aI 39 σ 0 v3).bind fun x2 =>
          if (64 : Int32) ≤ x2 then
            f_X6_canGive_67 (f_X6_canGive_30 n) v1 v3 σ
          else
            f_X6_canGive_63 (f_X6_canGive_30 n) v1 v3 σ
        else
          f_X6_canGive_63 (f_X6_canGive_30 n) v1 v3 σ
def f_X6_canGive_27 (v1 : Int32) (s0 : Int32) (σ : sm_M) : Option (Int32 × sm_M) :=
  f_X6_canGive_30 1000 v1 s0 (0 : Int32) σ
def f_X6_canGive_22 (v1 : Int32) (σ : sm_M) : Option (Int32 × sm_M) :=
  f_X6_canGive_27 v1 (1 : Int32) σ
def f_X6_canGive (v1 : Int32) (σ : sm_M) : Option (Int32 × sm_M) :=
  (aI 21 σ 0 v1).bind fun x1 =>
  if x1 = (5 : Int32) then
    (aI 26 σ 0 v1).bind fun x2 =>
    if (200 : Int32) ≤ x2 then
      f_X6_canGive_27 v1 (0 : Int32) σ
    else
      f_X6_canGive_22 v1 σ
  else
    f_X6_canGive_22 v1 σ
def f_X6_nextOf_101 (s0 : Int32) (σ : sm_M) : Option (Int32 × sm_M) :=
  some (s0, σ)
def f_X6_nextOf_99 (σ : sm_M) : Option (Int32 × sm_M) :=
  f_X6_nextOf_101 (-9 : Int32) σ
def f_X6_nextOf_75 (v2 : Int32) (σ : sm_M) : Option (Int32 × sm_M) :=
  if v2 = (-9 : Int32) then
    f_X6_nextOf_99 σ
  else
    (aI 40 σ 0 v2).bind fun x1 =>
    (f_X6_ready v2 σ).bind fun q2 =>
    if q2.1 ≤ x1 then
      f_X6_nextOf_99 q2.2
    else
      f_X6_nextOf_101 v2 q2.2
def f_X6_nextOf_68 (k41 : Int32 → Int32 → Int32 → sm_M → Option (Int32 × sm_M)) (v1 : Int32) (v3 : Int32) (s0 : Int32) (σ : sm_M) : Option (Int32 × sm_M) :=
  k41 v1 s0 (v3 + (-1)) σ
def f_X6_nextOf_67 (k41 : Int32 → Int32 → Int32 → sm_M → Option (Int32 × sm_M)) (v1 : Int32) (v2 : Int32) (v3 : Int32) (σ : sm_M) : Option (Int32 × sm_M) :=
  f_X6_nextOf_68 k41 v1 v3 v2 σ
def f_X6_nextOf_41 : Nat → Int32 → Int32 → Int32 → sm_M → Option (Int32 × sm_M)
  | 0, _, _, _, _ => none
  | n + 1, v1, v2, v3, σ =>
    if v3 < 0 then
      f_X6_nextOf_75 v2 σ
    else
      (aI 35 σ 0 v3).bind fun x1 =>
      if x1 = v1 then
        (f_X6_isOver v3 σ).bind fun q2 =>
        if q2.1 = 0 then
          f_X6_nextOf_68 (f_X6_nextOf_41 n) v1 v3 v3 q2.2
        else
          f_X6_nextOf_67 (f_X6_nextOf_41 n) v1 v2 v3 q2.2
      else
        f_X6_nextOf_67 (f_X6_nextOf_41 n) v1 v2 v3 σ
def f_X6_nextOf_30 (s0 : Int32) (σ : sm_M) : Option (Int32 × sm_M) :=
  some (s0, σ)
def f_X6_nextOf (v1 : Int32) (σ : sm_M) : Option (Int32 × sm_M) :=
  (aI 21 σ 0 v1).bind fun x1 =>
  if x1 = 0 then
    (aI 24 σ 0 v1).bind fun x2 =>
    (aI 22 σ 0 v1).bind fun x3 =>
    if x3 ≤ x2 then
      f_X6_nextOf_30 (-9 : Int32) σ
    else
      f_X6_nextOf_30 (-1 : Int32) σ
  else
    f_X6_nextOf_41 1000 v1 (-9 : Int32) ((σ.1 20 0 14) - (1 : Int32)) σ
def f_X6_valueOf_39 (s0 : Int32) (σ : sm_M) : Option (Int32 × sm_M) :=
  some (s0, σ)
def f_X6_valueOf (v1 : Int32) (v2 : Int32) (σ : sm_M) : Option (Int32 × sm_M) :=
  if v2 = (-1 : Int32) then
    (aI 24 σ 0 v1).bind fun x3 =>
    if (20 : Int32) = 0 then none else
    f_X6_valueOf_39 ((((5 : Int32) * v1) + ((3 : Int32) * x3)) - (((5 : Int32) * v1) + ((3 : Int32) * x3)) / (20 : Int32) * (20 : Int32)) σ
  else
    (aI 40 σ 0 v2).bind fun x1 =>
    (aI 37 σ 0 (((64 : Int32) * v2) + x1)).bind fun x2 =>
    f_X6_valueOf_39 x2 σ
def f_X6_give_72 (k2 : Int32 → Int32 → Int32 → sm_M → Option (sm_M)) (v1 : Int32) (v2 : Int32) (v3 : Int32) (σ : sm_M) : Option (sm_M) :=
  k2 v1 v2 (v3 + 1) σ
def f_X6_give_62 (k2 : Int32 → Int32 → Int32 → sm_M → Option (sm_M)) (v1 : Int32) (v2 : Int32) (v3 : Int32) (σ : sm_M) : Option (sm_M) :=
  (aI 39 σ 0 v3).bind fun x1 =>
  (uI 39 σ 0 v3 (x1 + (1 : Int32))).bind fun σ2 =>
  f_X6_give_72 k2 v1 v2 v3 σ2
def f_X6_give_2 : Nat → Int32 → Int32 → Int32 → sm_M → Option (sm_M)
  | 0, _, _, _, _ => none
  | n + 1, v1, v2, v3, σ =>
    if (σ.1 20 0 14) ≤ v3 then
      some σ
    else
      (aI 34 σ 0 v3).bind fun x1 =>
      if x1 = v1 then
        (aI 39 σ 0 v3).bind fun x2 =>
        (aI 38 σ 0 v3).bind fun x3 =>
        if x2 < x3 then
          f_X6_give_62 (f_X6_give_2 n) v1 v2 v3 σ
        else
          (aI 38 σ 0 v3).bind fun x4 =>
          (uI 37 σ 0 (((64 : Int32) * v3) + x4) v2).bind fun σ5 =>
          (aI 38 σ5 0 v3).bind fun x6 =>
          (uI 38 σ5 0 v3 (x6 + (1 : Int32))).bind fun σ7 =>
          f_X6_give_62 (f_X6_give_2 n) v1 v2 v3 σ7
      else
        f_X6_give_72 (f_X6_give_2 n) v1 v2 v3 σ
def f_X6_give (v1 : Int32) (v2 : Int32) (σ : sm_M) : Option (sm_M) :=
  f_X6_give_2 1000 v1 v2 (0 : Int32) σ
def f_X6_work (v1 : Int32) (v2 : Int32) (σ : sm_M) : Option (sm_M) :=
  (aI 21 σ 0 v1).bind fun x1 =>
  if x1 = 1 then
    (aI 22 σ 0 v1).bind fun x2 =>
    (f_X6_give v1 (v2 + x2) σ).bind fun q3 =>
    some q3
  else
    if x1 = 2 then
      (aI 22 σ 0 v1).bind fun x4 =>
      if x4 = 0 then none else
      if (v2 - v2 / x4 * x4) = 0 then
        (f_X6_give v1 v2 σ).bind fun q5 =>
        some q5
      else
        some σ
    else
      if x1 = 3 then
        (aI 25 σ 0 v1).bind fun x6 =>
        (uI 25 σ 0 v1 (x6 + v2)).bind fun σ7 =>
        (aI 25 σ7 0 v1).bind fun x8 =>
        (f_X6_give v1 x8 σ7).bind fun q9 =>
        some q9
      else
        if x1 = 4 then
          if (2147483647 : Int64) = 0 then none else
          (sI 20 34 σ 0 (((16807 : Int64) * (σ.1 20 0 34).toInt64) - ((16807 : Int64) * (σ.1 20 0 34).toInt64) / (2147483647 : Int64) * (2147483647 : Int64)).toInt32).bind fun σ10 =>
          if (10 : Int32) = 0 then none else
          (f_X6_give v1 (v2 + ((σ10.1 20 0 34) - (σ10.1 20 0 34) / (10 : Int32) * (10 : Int32))) σ10).bind fun q11 =>
          some q11
        else
          if x1 = 5 then
            (aI 26 σ 0 v1).bind fun x12 =>
            (uI 27 σ 0 (((200 : Int32) * v1) + x12) v2).bind fun σ13 =>
            (aI 26 σ13 0 v1).bind fun x14 =>
            (uI 26 σ13 0 v1 (x14 + (1 : Int32))).bind fun σ15 =>
            some σ15
          else
            (f_X6_give v1 v2 σ).bind fun q16 =>
            some q16
def f_X6_holdAll_2 : Nat → Int32 → sm_M → Option (sm_M)
  | 0, _, _ => none
  | n + 1, v1, σ =>
    if (σ.1 20 0 14) ≤ v1 then
      some σ
    else
      (aI 38 σ 0 v1).bind fun x1 =>
      (uI 55 σ 0 v1 x1).bind fun σ2 =>
      (aI 39 σ2 0 v1).bind fun x3 =>
      (uI 56 σ2 0 v1 x3).bind fun σ4 =>
      (aI 40 σ4 0 v1).bind fun x5 =>
      (uI 57 σ4 0 v1 x5).bind fun σ6 =>
      (f_X6_holdAll_2 n) (v1 + 1) σ6
def f_X6_holdAll (σ : sm_M) : Option (sm_M) :=
  f_X6_holdAll_2 1000 (0 : Int32) σ
def f_X6_undoAll_2 : Nat → Int32 → sm_M → Option (sm_M)
  | 0, _, _ => none
  | n + 1, v1, σ =>
    if (σ.1 20 0 14) ≤ v1 then
      some σ
    else
      (aI 55 σ 0 v1).bind fun x1 =>
      (uI 38 σ 0 v1 x1).bind fun σ2 =>
      (aI 56 σ2 0 v1).bind fun x3 =>
      (uI 39 σ2 0 v1 x3).bind fun σ4 =>
      (aI 57 σ4 0 v1).bind fun x5 =>
      (uI 40 σ4 0 v1 x5).bind fun σ6 =>
      (f_X6_undoAll_2 n) (v1 + 1) σ6
def f_X6_undoAll (σ : sm_M) : Option (sm_M) :=
  f_X6_undoAll_2 1000 (0 : Int32) σ
def f_X6_takeRows_254 (s0 : Int32) (σ : sm_M) : Option (Int32 × sm_M) :=
  some (s0, σ)
def f_X6_takeRows_240 (v7 : Int32) (v8 : Int32) (σ : sm_M) : Option (Int32 × sm_M) :=
  if v7 = 0 then
    f_X6_takeRows_254 v8 σ
  else
    f_X6_takeRows_254 ((-1 : Int32) - v8) σ
def f_X6_takeRows_193 (v1 : Int32) (v2 : Int32) (v3 : Int32) (v4 : Int32) (v5 : Int32) (v7 : Int32) (σ : sm_M) : Option (Int32 × sm_M) :=
  (aI 24 σ 0 v1).bind fun x1 =>
  if v7 = 0 then
    f_X6_takeRows_240 v7 (x1 - v2) σ
  else
    (uI 24 σ 0 v1 v2).bind fun σ2 =>
    (uI 25 σ2 0 v1 v3).bind fun σ3 =>
    (uI 26 σ3 0 v1 v4).bind fun σ4 =>
    (sI 20 34 σ4 0 v5).bind fun σ5 =>
    (f_X6_undoAll σ5).bind fun q6 =>
    f_X6_takeRows_240 v7 (x1 - v2) q6
def f_X6_takeRows_190 (k46 : Int32 → Int32 → Int32 → Int32 → Int32 → Int32 → Int32 → sm_M → Option (Int32 × sm_M)) (v1 : Int32) (v2 : Int32) (v3 : Int32) (v4 : Int32) (v5 : Int32) (v6 : Int32) (v7 : Int32) (σ : sm_M) : Option (Int32 × sm_M) :=
  k46 v1 v2 v3 v4 v5 v6 v7 σ
def f_X6_takeRows_179 (k46 : Int32 → Int32 → Int32 → Int32 → Int32 → Int32 → Int32 → sm_M → Option (Int32 × sm_M)) (v1 : Int32) (v2 : Int32) (v3 : Int32) (v4 : Int32) (v5 : Int32) (v7 : Int32) (σ : sm_M) : Option (Int32 × sm_M) :=
  (f_X6_findDone σ).bind fun q1 =>
  (f_X6_nextOf v1 q1).bind fun q2 =>
  f_X6_takeRows_190 k46 v1 v2 v3 v4 v5 q2.1 v7 q2.2
def f_X6_takeRows_153 (k46 : Int32 → Int32 → Int32 → Int32 → Int32 → Int32 → Int32 → sm_M → Option (Int32 × sm_M)) (v1 : Int32) (v2 : Int32) (v3 : Int32) (v4 : Int32) (v5 : Int32) (v6 : Int32) (v7 : Int32) (σ : sm_M) : Option (Int32 × sm_M) :=
  (aI 24 σ 0 v1).bind fun x1 =>
  (uI 24 σ 0 v1 (x1 + (1 : Int32))).bind fun σ2 =>
  if v6 < 0 then
    f_X6_takeRows_179 k46 v1 v2 v3 v4 v5 v7 σ2
  else
    (aI 40 σ2 0 v6).bind fun x3 =>
    (uI 40 σ2 0 v6 (x3 + (1 : Int32))).bind fun σ4 =>
    f_X6_takeRows_179 k46 v1 v2 v3 v4 v5 v7 σ4
def f_X6_takeRows_134 (k46 : Int32 → Int32 → Int32 → Int32 → Int32 → Int32 → Int32 → sm_M → Option (Int32 × sm_M)) (v1 : Int32) (v2 : Int32) (v3 : Int32) (v4 : Int32) (v5 : Int32) (v6 : Int32) (v8 : Int32) (v9 : Int32) (s0 : Int32) (σ : sm_M) : Option (Int32 × sm_M) :=
  if s0 = 0 then
    if v9 = 0 then
      (f_X6_work v1 v8 σ).bind fun q1 =>
      f_X6_takeRows_153 k46 v1 v2 v3 v4 v5 v6 s0 q1
    else
      f_X6_takeRows_153 k46 v1 v2 v3 v4 v5 v6 s0 σ
  else
    f_X6_takeRows_190 k46 v1 v2 v3 v4 v5 v6 s0 σ
def f_X6_takeRows_133 (k46 : Int32 → Int32 → Int32 → Int32 → Int32 → Int32 → Int32 → sm_M → Option (Int32 × sm_M)) (v1 : Int32) (v2 : Int32) (v3 : Int32) (v4 : Int32) (v5 : Int32) (v6 : Int32) (v8 : Int32) (v9 : Int32) (σ : sm_M) : Option (Int32 × sm_M) :=
  f_X6_takeRows_134 k46 v1 v2 v3 v4 v5 v6 v8 v9 (0 : Int32) σ
def f_X6_takeRows_46 : Nat → Int32 → Int32 → Int32 → Int32 → Int32 → Int32 → Int32 → sm_M → Option (Int32 × sm_M)
  | 0, _, _, _, _, _, _, _, _ => none
  | n + 1, v1, v2, v3, v4, v5, v6, v7, σ =>
    if v6 = (-9 : Int32) then
      f_X6_takeRows_193 v1 v2 v3 v4 v5 v7 σ
    else
      (aI 24 σ 0 v1).bind fun x1 =>
      (aI 29 σ 0 v1).bind fun x2 =>
      if x2 ≤ (x1 - v2) then
        f_X6_takeRows_193 v1 v2 v3 v4 v5 v7 σ
      else
        (f_X6_canGive v1 σ).bind fun q3 =>
        if q3.1 = 0 then
          f_X6_takeRows_193 v1 v2 v3 v4 v5 v7 q3.2
        else
          if v7 = 0 then
            (f_X6_valueOf v1 v6 q3.2).bind fun q4 =>
            (aI 24 q4.2 0 v1).bind fun x5 =>
            (f_X6_isAside v1 x5 q4.2).bind fun q6 =>
            (aI 28 q6.2 0 v1).bind fun x7 =>
            if q4.1 = x7 then
              if q4.1 = (1001 : Int32) then
                f_X6_takeRows_133 (f_X6_takeRows_46 n) v1 v2 v3 v4 v5 v6 q4.1 q6.1 q6.2
              else
                if q6.1 = 0 then
                  f_X6_takeRows_134 (f_X6_takeRows_46 n) v1 v2 v3 v4 v5 v6 q4.1 q6.1 (1 : Int32) q6.2
                else
                  f_X6_takeRows_133 (f_X6_takeRows_46 n) v1 v2 v3 v4 v5 v6 q4.1 q6.1 q6.2
            else
              f_X6_takeRows_133 (f_X6_takeRows_46 n) v1 v2 v3 v4 v5 v6 q4.1 q6.1 q6.2
          else
            f_X6_takeRows_193 v1 v2 v3 v4 v5 v7 q3.2
def f_X6_takeRows (v1 : Int32) (σ : sm_M) : Option (Int32 × sm_M) :=
  (aI 24 σ 0 v1).bind fun x1 =>
  (aI 25 σ 0 v1).bind fun x2 =>
  (aI 26 σ 0 v1).bind fun x3 =>
  (f_X6_holdAll σ).bind fun q4 =>
  (f_X6_findDone q4).bind fun q5 =>
  (f_X6_nextOf v1 q5).bind fun q6 =>
  f_X6_takeRows_46 1000 v1 x1 x2 x3 (σ.1 20 0 34) q6.1 (0 : Int32) q6.2
def f_X6_blame (v1 : Int32) (v2 : Int32) (σ : sm_M) : Option (sm_M) :=
  (aI 30 σ 0 v1).bind fun x1 =>
  (uI 30 σ 0 v1 (x1 + (1 : Int32))).bind fun σ2 =>
  if (64 : Int32) ≤ (σ2.1 20 0 39) then
    some σ2
  else
    (uI 51 σ2 0 (σ2.1 20 0 39) v1).bind fun σ3 =>
    (uI 52 σ3 0 (σ3.1 20 0 39) (σ3.1 20 0 35)).bind fun σ4 =>
    (uI 53 σ4 0 (σ4.1 20 0 39) v2).bind fun σ5 =>
    (sI 20 39 σ5 0 ((σ5.1 20 0 39) + (1 : Int32))).bind fun σ6 =>
    some σ6
def f_X6_noRegion_2 : Nat → Int32 → sm_M → Option (sm_M)
  | 0, _, _ => none
  | n + 1, v1, σ =>
    if (16 : Int32) ≤ v1 then
      some σ
    else
      (uZ 58 σ 0 v1 (0 : Int32)).bind fun σ1 =>
      (uZ 59 σ1 0 v1 (0 : Int32)).bind fun σ2 =>
      (f_X6_noRegion_2 n) (v1 + 1) σ2
def f_X6_noRegion (σ : sm_M) : Option (sm_M) :=
  f_X6_noRegion_2 1000 (0 : Int32) σ
def f_X6_isUnsteady_66 (v2 : Int32) (σ : sm_M) : Option (Int32 × sm_M) :=
  if v2 = 0 ∨ v2 = 1 then some (v2, σ) else none
def f_X6_isUnsteady_59 (k18 : Int32 → Int32 → Int32 → sm_M → Option (Int32 × sm_M)) (v1 : Int32) (v3 : Int32) (s0 : Int32) (σ : sm_M) : Option (Int32 × sm_M) :=
  k18 v1 s0 (v3 + 1) σ
def f_X6_isUnsteady_58 (k18 : Int32 → Int32 → Int32 → sm_M → Option (Int32 × sm_M)) (v1 : Int32) (v3 : Int32) (σ : sm_M) : Option (Int32 × sm_M) :=
  f_X6_isUnsteady_59 k18 v1 v3 (0 : Int32) σ
def f_X6_isUnsteady_54 (k18 : Int32 → Int32 → Int32 → sm_M → Option (Int32 × sm_M)) (v1 : Int32) (v3 : Int32) (σ : sm_M) : Option (Int32 × sm_M) :=
  f_X6_isUnsteady_59 k18 v1 v3 (1 : Int32) σ
def f_X6_isUnsteady_18 : Nat → Int32 → Int32 → Int32 → sm_M → Option (Int32 × sm_M)
  | 0, _, _, _, _ => none
  | n + 1, v1, v2, v3, σ =>
    if (σ.1 20 0 14) ≤ v3 then
      f_X6_isUnsteady_66 v2 σ
    else
      if v2 = 0 then
        (aI 35 σ 0 v3).bind fun x1 =>
        if x1 = v1 then
          (aI 34 σ 0 v3).bind fun x2 =>
          (aI 59 σ 0 x2).bind fun x3 =>
          if x3 = 0 then
            f_X6_isUnsteady_58 (f_X6_isUnsteady_18 n) v1 v3 σ
          else
            f_X6_isUnsteady_54 (f_X6_isUnsteady_18 n) v1 v3 σ
        else
          f_X6_isUnsteady_58 (f_X6_isUnsteady_18 n) v1 v3 σ
      else
        f_X6_isUnsteady_54 (f_X6_isUnsteady_18 n) v1 v3 σ
def f_X6_isUnsteady_15 (v1 : Int32) (s0 : Int32) (σ : sm_M) : Option (Int32 × sm_M) :=
  f_X6_isUnsteady_18 1000 v1 s0 (0 : Int32) σ
def f_X6_isUnsteady (v1 : Int32) (σ : sm_M) : Option (Int32 × sm_M) :=
  (aI 21 σ 0 v1).bind fun x1 =>
  if x1 = (4 : Int32) then
    f_X6_isUnsteady_15 v1 (1 : Int32) σ
  else
    f_X6_isUnsteady_15 v1 (0 : Int32) σ
def f_X6_grow_261 (k2 : Int32 → sm_M → Option (sm_M)) (v1 : Int32) (σ : sm_M) : Option (sm_M) :=
  k2 v1 σ
def f_X6_grow_255 (k2 : Int32 → sm_M → Option (sm_M)) (k61 : Int32 → Int32 → sm_M → Option (sm_M)) (v1 : Int32) (v2 : Int32) (σ : sm_M) : Option (sm_M) :=
  k61 v1 (v2 + 1) σ
def f_X6_grow_222 (k2 : Int32 → sm_M → Option (sm_M)) (k61 : Int32 → Int32 → sm_M → Option (sm_M)) (v1 : Int32) (v2 : Int32) (v4 : Int32) (σ : sm_M) : Option (sm_M) :=
  if v4 = 0 then
    f_X6_grow_255 k2 k61 v1 v2 σ
  else
    (aI 35 σ 0 v2).bind fun x1 =>
    (aI 58 σ 0 x1).bind fun x2 =>
    if x2 = 0 then
      (aI 35 σ 0 v2).bind fun x3 =>
      (uZ 58 σ 0 x3 (1 : Int32)).bind fun σ4 =>
      f_X6_grow_255 k2 k61 (1 : Int32) v2 σ4
    else
      f_X6_grow_255 k2 k61 v1 v2 σ
def f_X6_grow_188 (k2 : Int32 → sm_M → Option (sm_M)) (k61 : Int32 → Int32 → sm_M → Option (sm_M)) (v1 : Int32) (v2 : Int32) (v3 : Int32) (s0 : Int32) (σ : sm_M) : Option (sm_M) :=
  if v3 = 0 then
    f_X6_grow_222 k2 k61 v1 v2 s0 σ
  else
    (aI 34 σ 0 v2).bind fun x1 =>
    (aI 58 σ 0 x1).bind fun x2 =>
    if x2 = 0 then
      (aI 34 σ 0 v2).bind fun x3 =>
      (uZ 58 σ 0 x3 (1 : Int32)).bind fun σ4 =>
      f_X6_grow_222 k2 k61 (1 : Int32) v2 s0 σ4
    else
      f_X6_grow_222 k2 k61 v1 v2 s0 σ
def f_X6_grow_187 (k2 : Int32 → sm_M → Option (sm_M)) (k61 : Int32 → Int32 → sm_M → Option (sm_M)) (v1 : Int32) (v2 : Int32) (v3 : Int32) (σ : sm_M) : Option (sm_M) :=
  f_X6_grow_188 k2 k61 v1 v2 v3 (0 : Int32) σ
def f_X6_grow_183 (k2 : Int32 → sm_M → Option (sm_M)) (k61 : Int32 → Int32 → sm_M → Option (sm_M)) (v1 : Int32) (v2 : Int32) (v3 : Int32) (σ : sm_M) : Option (sm_M) :=
  f_X6_grow_188 k2 k61 v1 v2 v3 (1 : Int32) σ
def f_X6_grow_180 (k2 : Int32 → sm_M → Option (sm_M)) (k61 : Int32 → Int32 → sm_M → Option (sm_M)) (v1 : Int32) (v2 : Int32) (v3 : Int32) (s0 : Int32) (s1 : Int32) (σ : sm_M) : Option (sm_M) :=
  if s0 ≤ s1 then
    f_X6_grow_187 k2 k61 v1 v2 v3 σ
  else
    f_X6_grow_183 k2 k61 v1 v2 v3 σ
def f_X6_grow_106 (k2 : Int32 → sm_M → Option (sm_M)) (k61 : Int32 → Int32 → sm_M → Option (sm_M)) (v1 : Int32) (v2 : Int32) (s0 : Int32) (σ : sm_M) : Option (sm_M) :=
  (aI 34 σ 0 v2).bind fun x1 =>
  (aI 58 σ 0 x1).bind fun x2 =>
  if x2 = 0 then
    f_X6_grow_187 k2 k61 v1 v2 s0 σ
  else
    (aI 36 σ 0 v2).bind fun x3 =>
    if x3 = 0 then
      f_X6_grow_183 k2 k61 v1 v2 s0 σ
    else
      (aI 34 σ 0 v2).bind fun x4 =>
      (aI 59 σ 0 x4).bind fun x5 =>
      if x5 = 0 then
        f_X6_grow_187 k2 k61 v1 v2 s0 σ
      else
        (aI 41 σ 0 v2).bind fun x6 =>
        (aI 47 σ 0 v2).bind fun x7 =>
        (aI 49 σ 0 v2).bind fun x8 =>
        if x7 ≤ x8 then
          (aI 49 σ 0 v2).bind fun x9 =>
          f_X6_grow_180 k2 k61 v1 v2 s0 x6 x9 σ
        else
          (aI 47 σ 0 v2).bind fun x10 =>
          f_X6_grow_180 k2 k61 v1 v2 s0 x6 x10 σ
def f_X6_grow_105 (k2 : Int32 → sm_M → Option (sm_M)) (k61 : Int32 → Int32 → sm_M → Option (sm_M)) (v1 : Int32) (v2 : Int32) (σ : sm_M) : Option (sm_M) :=
  f_X6_grow_106 k2 k61 v1 v2 (0 : Int32) σ
def f_X6_grow_101 (k2 : Int32 → sm_M → Option (sm_M)) (k61 : Int32 → Int32 → sm_M → Option (sm_M)) (v1 : Int32) (v2 : Int32) (σ : sm_M) : Option (sm_M) :=
  f_X6_grow_106 k2 k61 v1 v2 (1 : Int32) σ
def f_X6_grow_61 (k2 : Int32 → sm_M → Option (sm_M)) : Nat → Int32 → Int32 → sm_M → Option (sm_M)
  | 0, _, _, _ => none
  | n + 1, v1, v2, σ =>
    if (σ.1 20 0 14) ≤ v2 then
      f_X6_grow_261 k2 v1 σ
    else
      (aI 35 σ 0 v2).bind fun x1 =>
      (aI 58 σ 0 x1).bind fun x2 =>
      if x2 = 0 then
        f_X6_grow_105 k2 (f_X6_grow_61 k2 n) v1 v2 σ
      else
        (aI 36 σ 0 v2).bind fun x3 =>
        if x3 = 0 then
          f_X6_grow_101 k2 (f_X6_grow_61 k2 n) v1 v2 σ
        else
          (aI 42 σ 0 v2).bind fun x4 =>
          if x4 = 0 then
            f_X6_grow_105 k2 (f_X6_grow_61 k2 n) v1 v2 σ
          else
            f_X6_grow_101 k2 (f_X6_grow_61 k2 n) v1 v2 σ
def f_X6_grow_59 (k2 : Int32 → sm_M → Option (sm_M)) (v1 : Int32) (σ : sm_M) : Option (sm_M) :=
  f_X6_grow_61 k2 1000 v1 (0 : Int32) σ
def f_X6_grow_53 (k2 : Int32 → sm_M → Option (sm_M)) (k10 : Int32 → Int32 → sm_M → Option (sm_M)) (v1 : Int32) (v2 : Int32) (σ : sm_M) : Option (sm_M) :=
  k10 v1 (v2 + 1) σ
def f_X6_grow_10 (k2 : Int32 → sm_M → Option (sm_M)) : Nat → Int32 → Int32 → sm_M → Option (sm_M)
  | 0, _, _, _ => none
  | n + 1, v1, v2, σ =>
    if (σ.1 20 0 0) ≤ v2 then
      f_X6_grow_59 k2 v1 σ
    else
      (aI 58 σ 0 v2).bind fun x1 =>
      if x1 = 0 then
        f_X6_grow_53 k2 (f_X6_grow_10 k2 n) v1 v2 σ
      else
        (aI 59 σ 0 v2).bind fun x2 =>
        if x2 = 0 then
          (f_X6_isUnsteady v2 σ).bind fun q3 =>
          if q3.1 = 0 then
            f_X6_grow_53 k2 (f_X6_grow_10 k2 n) v1 v2 q3.2
          else
            (uZ 59 q3.2 0 v2 (1 : Int32)).bind fun σ4 =>
            f_X6_grow_53 k2 (f_X6_grow_10 k2 n) (1 : Int32) v2 σ4
        else
          f_X6_grow_53 k2 (f_X6_grow_10 k2 n) v1 v2 σ
def f_X6_grow_2 : Nat → Int32 → sm_M → Option (sm_M)
  | 0, _, _ => none
  | n + 1, v1, σ =>
    if v1 = 0 then
      some σ
    else
      f_X6_grow_10 (f_X6_grow_2 n) 1000 (0 : Int32) (0 : Int32) σ
def f_X6_grow (σ : sm_M) : Option (sm_M) :=
  f_X6_grow_2 1000 (1 : Int32) σ
def f_X6_beginAgain_345 (v3 : Int32) (σ : sm_M) : Option (Int32 × sm_M) :=
  (sI 20 44 σ 0 ((σ.1 20 0 44) + v3)).bind fun σ1 =>
  some (v3, σ1)
def f_X6_beginAgain_339 (k133 : Int32 → Int32 → sm_M → Option (Int32 × sm_M)) (v3 : Int32) (v4 : Int32) (σ : sm_M) : Option (Int32 × sm_M) :=
  k133 v3 (v4 + 1) σ
def f_X6_beginAgain_338 (k133 : Int32 → Int32 → sm_M → Option (Int32 × sm_M)) (v3 : Int32) (v4 : Int32) (s1 : Int32) (s2 : Int32) (σ : sm_M) : Option (Int32 × sm_M) :=
  (uI 41 σ 0 s1 s2).bind fun σ1 =>
  f_X6_beginAgain_339 k133 v3 v4 σ1
def f_X6_beginAgain_306 (k133 : Int32 → Int32 → sm_M → Option (Int32 × sm_M)) (v3 : Int32) (v4 : Int32) (s0 : Int32) (σ : sm_M) : Option (Int32 × sm_M) :=
  (aI 41 σ 0 v4).bind fun x1 =>
  if s0 ≤ x1 then
    f_X6_beginAgain_338 k133 v3 v4 v4 s0 σ
  else
    (aI 41 σ 0 v4).bind fun x2 =>
    f_X6_beginAgain_338 k133 v3 v4 v4 x2 σ
def f_X6_beginAgain_257 (k133 : Int32 → Int32 → sm_M → Option (Int32 × sm_M)) (v3 : Int32) (v4 : Int32) (σ : sm_M) : Option (Int32 × sm_M) :=
  (aI 34 σ 0 v4).bind fun x1 =>
  (aI 59 σ 0 x1).bind fun x2 =>
  if x2 = 0 then
    f_X6_beginAgain_339 k133 v3 v4 σ
  else
    (aI 47 σ 0 v4).bind fun x3 =>
    (aI 49 σ 0 v4).bind fun x4 =>
    if x3 ≤ x4 then
      (aI 49 σ 0 v4).bind fun x5 =>
      f_X6_beginAgain_306 k133 v3 v4 x5 σ
    else
      (aI 47 σ 0 v4).bind fun x6 =>
      f_X6_beginAgain_306 k133 v3 v4 x6 σ
def f_X6_beginAgain_235 (k133 : Int32 → Int32 → sm_M → Option (Int32 × sm_M)) (v3 : Int32) (v4 : Int32) (σ : sm_M) : Option (Int32 × sm_M) :=
  (aI 47 σ 0 v4).bind fun x1 =>
  (uI 38 σ 0 v4 x1).bind fun σ2 =>
  (uZ 42 σ2 0 v4 (0 : Int32)).bind fun σ3 =>
  f_X6_beginAgain_257 k133 v3 v4 σ3
def f_X6_beginAgain_171 (k133 : Int32 → Int32 → sm_M → Option (Int32 × sm_M)) (v3 : Int32) (v4 : Int32) (σ : sm_M) : Option (Int32 × sm_M) :=
  (aI 34 σ 0 v4).bind fun x1 =>
  (aI 58 σ 0 x1).bind fun x2 =>
  if x2 = 0 then
    f_X6_beginAgain_339 k133 v3 v4 σ
  else
    (aI 48 σ 0 v4).bind fun x3 =>
    (uI 39 σ 0 v4 x3).bind fun σ4 =>
    (aI 36 σ4 0 v4).bind fun x5 =>
    if x5 = 0 then
      f_X6_beginAgain_235 k133 v3 v4 σ4
    else
      (aI 34 σ4 0 v4).bind fun x6 =>
      (aI 59 σ4 0 x6).bind fun x7 =>
      if x7 = 0 then
        (aI 42 σ4 0 v4).bind fun x8 =>
        if x8 = 0 then
          f_X6_beginAgain_257 k133 v3 v4 σ4
        else
          f_X6_beginAgain_235 k133 v3 v4 σ4
      else
        f_X6_beginAgain_235 k133 v3 v4 σ4
def f_X6_beginAgain_133 : Nat → Int32 → Int32 → sm_M → Option (Int32 × sm_M)
  | 0, _, _, _ => none
  | n + 1, v3, v4, σ =>
    if (σ.1 20 0 14) ≤ v4 then
      f_X6_beginAgain_345 v3 σ
    else
      (aI 35 σ 0 v4).bind fun x1 =>
      (aI 58 σ 0 x1).bind fun x2 =>
      if x2 = 0 then
        f_X6_beginAgain_171 (f_X6_beginAgain_133 n) v3 v4 σ
      else
        (aI 49 σ 0 v4).bind fun x3 =>
        (uI 40 σ 0 v4 x3).bind fun σ4 =>
        f_X6_beginAgain_171 (f_X6_beginAgain_133 n) v3 v4 σ4
def f_X6_beginAgain_130 (v3 : Int32) (σ : sm_M) : Option (Int32 × sm_M) :=
  f_X6_beginAgain_133 1000 v3 (0 : Int32) σ
def f_X6_beginAgain_124 (k21 : Int32 → Int32 → Int32 → sm_M → Option (Int32 × sm_M)) (v2 : Int32) (v3 : Int32) (v4 : Int32) (σ : sm_M) : Option (Int32 × sm_M) :=
  k21 v2 v3 (v4 + 1) σ
def f_X6_beginAgain_120 (k21 : Int32 → Int32 → Int32 → sm_M → Option (Int32 × sm_M)) (v2 : Int32) (v3 : Int32) (v4 : Int32) (s1 : Int32) (s2 : Int32) (σ : sm_M) : Option (Int32 × sm_M) :=
  (uI 31 σ 0 s1 s2).bind fun σ1 =>
  f_X6_beginAgain_124 k21 v2 (v3 + 1) v4 σ1
def f_X6_beginAgain_21 : Nat → Int32 → Int32 → Int32 → sm_M → Option (Int32 × sm_M)
  | 0, _, _, _, _ => none
  | n + 1, v2, v3, v4, σ =>
    if (σ.1 20 0 0) ≤ v4 then
      f_X6_beginAgain_130 v3 σ
    else
      (aI 58 σ 0 v4).bind fun x1 =>
      if x1 = 0 then
        f_X6_beginAgain_124 (f_X6_beginAgain_21 n) v2 v3 v4 σ
      else
        (aI 44 σ 0 v4).bind fun x2 =>
        (uI 24 σ 0 v4 x2).bind fun σ3 =>
        (aI 45 σ3 0 v4).bind fun x4 =>
        (uI 25 σ3 0 v4 x4).bind fun σ5 =>
        (aI 46 σ5 0 v4).bind fun x6 =>
        (uI 26 σ5 0 v4 x6).bind fun σ7 =>
        (aI 31 σ7 0 v4).bind fun x8 =>
        if x8 ≤ ((σ7.1 20 0 35) + v2) then
          f_X6_beginAgain_120 (f_X6_beginAgain_21 n) v2 v3 v4 v4 ((σ7.1 20 0 35) + v2) σ7
        else
          (aI 31 σ7 0 v4).bind fun x9 =>
          f_X6_beginAgain_120 (f_X6_beginAgain_21 n) v2 v3 v4 v4 x9 σ7
def f_X6_beginAgain_15 (s0 : Int32) (σ : sm_M) : Option (Int32 × sm_M) :=
  f_X6_beginAgain_21 1000 s0 (0 : Int32) (0 : Int32) σ
def f_X6_beginAgain (v1 : Int32) (σ : sm_M) : Option (Int32 × sm_M) :=
  if v1 ≤ (4 : Int32) then
    f_X6_beginAgain_15 ((1 : Int32) <<< ((v1 - (1 : Int32)) &&& 31)) σ
  else
    f_X6_beginAgain_15 (16 : Int32) σ
def f_X6_failOne (v1 : Int32) (v2 : Int32) (σ : sm_M) : Option (Int32 × sm_M) :=
  (f_X6_blame v1 v2 σ).bind fun q1 =>
  (aI 30 q1 0 v1).bind fun x2 =>
  if x2 ≤ (q1.1 20 0 32) then
    (f_X6_noRegion q1).bind fun q3 =>
    (uZ 58 q3 0 v1 (1 : Int32)).bind fun σ4 =>
    (f_X6_grow σ4).bind fun q5 =>
    (aI 30 q5 0 v1).bind fun x6 =>
    (f_X6_beginAgain x6 q5).bind fun q7 =>
    some (q7.1, q7.2)
  else
    (sZ 20 43 q1 0 (1 : Int32)).bind fun σ8 =>
    some ((0 : Int32), σ8)
def f_X6_step_212 (v1 : Int32) (σ : sm_M) : Option (Int32 × sm_M) :=
  (f_X6_failOne v1 (0 : Int32) σ).bind fun q1 =>
  some ((-5 : Int32), q1.2)
def f_X6_step_125 (v2 : Int32) (σ : sm_M) : Option (Int32 × sm_M) :=
  some (v2, σ)
def f_X6_step_118 (k60 : Int32 → Int32 → sm_M → Option (Int32 × sm_M)) (v2 : Int32) (v3 : Int32) (s1 : Int32) (s2 : Int32) (σ : sm_M) : Option (Int32 × sm_M) :=
  (uI 41 σ 0 s1 s2).bind fun σ1 =>
  k60 v2 (v3 + 1) σ1
def f_X6_step_112 (k60 : Int32 → Int32 → sm_M → Option (Int32 × sm_M)) (v2 : Int32) (v3 : Int32) (s1 : Int32) (σ : sm_M) : Option (Int32 × sm_M) :=
  (aI 41 σ 0 v3).bind fun x1 =>
  f_X6_step_118 k60 v2 v3 s1 x1 σ
def f_X6_step_60 : Nat → Int32 → Int32 → sm_M → Option (Int32 × sm_M)
  | 0, _, _, _ => none
  | n + 1, v2, v3, σ =>
    if (σ.1 20 0 14) ≤ v3 then
      f_X6_step_125 v2 σ
    else
      (aI 40 σ 0 v3).bind fun x1 =>
      (aI 57 σ 0 v3).bind fun x2 =>
      if x1 ≤ x2 then
        f_X6_step_112 (f_X6_step_60 n) v2 v3 v3 σ
      else
        (aI 40 σ 0 v3).bind fun x3 =>
        (aI 41 σ 0 v3).bind fun x4 =>
        if x3 ≤ x4 then
          f_X6_step_112 (f_X6_step_60 n) v2 v3 v3 σ
        else
          (aI 40 σ 0 v3).bind fun x5 =>
          f_X6_step_118 (f_X6_step_60 n) v2 v3 v3 x5 σ
def f_X6_step_30 (σ : sm_M) : Option (Int32 × sm_M) :=
  some ((-3 : Int32), σ)
def f_X6_step (v1 : Int32) (σ : sm_M) : Option (Int32 × sm_M) :=
  (f_X6_noTask v1 σ).bind fun q1 =>
  if q1.1 = 0 then
    if (q1.2.1 20 0 43) = 0 then
      (aI 31 q1.2 0 v1).bind fun x2 =>
      if x2 ≤ (q1.2.1 20 0 35) then
        (sZ 20 37 q1.2 0 (1 : Int32)).bind fun σ3 =>
        (f_X6_takeRows v1 σ3).bind fun q4 =>
        if q4.1 < 0 then
          (aI 29 q4.2 0 v1).bind fun x5 =>
          if x5 ≤ (1 : Int32) then
            if (q4.2.1 20 0 33) = 0 then
              f_X6_step_212 v1 q4.2
            else
              (aI 32 q4.2 0 v1).bind fun x6 =>
              if (8 : Int32) ≤ x6 then
                f_X6_step_212 v1 q4.2
              else
                (aI 32 q4.2 0 v1).bind fun x7 =>
                (aI 24 q4.2 0 v1).bind fun x8 =>
                (uI 33 q4.2 0 (((8 : Int32) * v1) + x7) x8).bind fun σ9 =>
                (aI 32 σ9 0 v1).bind fun x10 =>
                (uI 32 σ9 0 v1 (x10 + (1 : Int32))).bind fun σ11 =>
                (uI 29 σ11 0 v1 (8 : Int32)).bind fun σ12 =>
                f_X6_step_212 v1 σ12
          else
            (aI 29 q4.2 0 v1).bind fun x13 =>
            if (2 : Int32) = 0 then none else
            (uI 29 q4.2 0 v1 (x13 / (2 : Int32))).bind fun σ14 =>
            f_X6_step_212 v1 σ14
        else
          (sI 20 36 q4.2 0 ((q4.2.1 20 0 36) + (1 : Int32))).bind fun σ15 =>
          f_X6_step_60 1000 q4.1 (0 : Int32) σ15
      else
        f_X6_step_30 q1.2
    else
      f_X6_step_30 q1.2
  else
    some ((-1 : Int32), q1.2)
def f_X6_fail_28 (s0 : Int32) (σ : sm_M) : Option (Int32 × sm_M) :=
  some (s0, σ)
def f_X6_fail (v1 : Int32) (σ : sm_M) : Option (Int32 × sm_M) :=
  (f_X6_noTask v1 σ).bind fun q1 =>
  if q1.1 = 0 then
    if (q1.2.1 20 0 43) = 0 then
      (f_X6_failOne v1 (1 : Int32) q1.2).bind fun q2 =>
      f_X6_fail_28 q2.1 q2.2
    else
      f_X6_fail_28 (-3 : Int32) q1.2
  else
    some ((-1 : Int32), q1.2)
def f_X6_nodesThere_32 (v1 : Int32) (σ : sm_M) : Option (Int32 × sm_M) :=
  some (v1, σ)
def f_X6_nodesThere_24 (k4 : Int32 → Int32 → sm_M → Option (Int32 × sm_M)) (v2 : Int32) (s0 : Int32) (s1 : Int32) (σ : sm_M) : Option (Int32 × sm_M) :=
  k4 (s0 + s1) (v2 + 1) σ
def f_X6_nodesThere_4 : Nat → Int32 → Int32 → sm_M → Option (Int32 × sm_M)
  | 0, _, _, _ => none
  | n + 1, v1, v2, σ =>
    if (4 : Int32) ≤ v2 then
      f_X6_nodesThere_32 v1 σ
    else
      (aI 50 σ 0 v2).bind fun x1 =>
      if x1 = 0 then
        f_X6_nodesThere_24 (f_X6_nodesThere_4 n) v2 v1 (1 : Int32) σ
      else
        f_X6_nodesThere_24 (f_X6_nodesThere_4 n) v2 v1 (0 : Int32) σ
def f_X6_nodesThere (σ : sm_M) : Option (Int32 × sm_M) :=
  f_X6_nodesThere_4 1000 (0 : Int32) (0 : Int32) σ
def f_X6_emptiest_81 (v1 : Int32) (σ : sm_M) : Option (Int32 × sm_M) :=
  some (v1, σ)
def f_X6_emptiest_75 (k8 : Int32 → Int32 → Int32 → sm_M → Option (Int32 × sm_M)) (v1 : Int32) (v2 : Int32) (v3 : Int32) (σ : sm_M) : Option (Int32 × sm_M) :=
  k8 v1 v2 (v3 + 1) σ
def f_X6_emptiest_55 (k8 : Int32 → Int32 → Int32 → sm_M → Option (Int32 × sm_M)) (v1 : Int32) (v2 : Int32) (v3 : Int32) (v4 : Int32) (σ : sm_M) : Option (Int32 × sm_M) :=
  (aI 50 σ 0 v3).bind fun x1 =>
  if x1 = 0 then
    if v2 ≤ v4 then
      f_X6_emptiest_75 k8 v1 v2 v3 σ
    else
      f_X6_emptiest_75 k8 v3 v4 v3 σ
  else
    f_X6_emptiest_75 k8 v1 v2 v3 σ
def f_X6_emptiest_46 (k8 : Int32 → Int32 → Int32 → sm_M → Option (Int32 × sm_M)) (k19 : Int32 → Int32 → Int32 → Int32 → Int32 → sm_M → Option (Int32 × sm_M)) (v1 : Int32) (v2 : Int32) (v3 : Int32) (v5 : Int32) (s0 : Int32) (s1 : Int32) (σ : sm_M) : Option (Int32 × sm_M) :=
  k19 v1 v2 v3 (s0 + s1) (v5 + 1) σ
def f_X6_emptiest_19 (k8 : Int32 → Int32 → Int32 → sm_M → Option (Int32 × sm_M)) : Nat → Int32 → Int32 → Int32 → Int32 → Int32 → sm_M → Option (Int32 × sm_M)
  | 0, _, _, _, _, _, _ => none
  | n + 1, v1, v2, v3, v4, v5, σ =>
    if (σ.1 20 0 0) ≤ v5 then
      f_X6_emptiest_55 k8 v1 v2 v3 v4 σ
    else
      (aI 23 σ 0 v5).bind fun x1 =>
      if x1 = v3 then
        f_X6_emptiest_46 k8 (f_X6_emptiest_19 k8 n) v1 v2 v3 v5 v4 (1 : Int32) σ
      else
        f_X6_emptiest_46 k8 (f_X6_emptiest_19 k8 n) v1 v2 v3 v5 v4 (0 : Int32) σ
def f_X6_emptiest_8 : Nat → Int32 → Int32 → Int32 → sm_M → Option (Int32 × sm_M)
  | 0, _, _, _, _ => none
  | n + 1, v1, v2, v3, σ =>
    if (4 : Int32) ≤ v3 then
      f_X6_emptiest_81 v1 σ
    else
      f_X6_emptiest_19 (f_X6_emptiest_8 n) 1000 v1 v2 v3 (0 : Int32) (0 : Int32) σ
def f_X6_emptiest (σ : sm_M) : Option (Int32 × sm_M) :=
  f_X6_emptiest_8 1000 (-9 : Int32) (17 : Int32) (0 : Int32) σ
def f_X6_gone_248 (v2 : Int32) (σ : sm_M) : Option (Int32 × sm_M) :=
  (f_X6_grow σ).bind fun q1 =>
  (f_X6_beginAgain v2 q1).bind fun q2 =>
  some (q2.1, q2.2)
def f_X6_gone_242 (k177 : Int32 → Int32 → sm_M → Option (Int32 × sm_M)) (v2 : Int32) (v3 : Int32) (σ : sm_M) : Option (Int32 × sm_M) :=
  k177 v2 (v3 + 1) σ
def f_X6_gone_177 : Nat → Int32 → Int32 → sm_M → Option (Int32 × sm_M)
  | 0, _, _, _ => none
  | n + 1, v2, v3, σ =>
    if (σ.1 20 0 14) ≤ v3 then
      f_X6_gone_248 v2 σ
    else
      (aI 36 σ 0 v3).bind fun x1 =>
      if x1 = 0 then
        f_X6_gone_242 (f_X6_gone_177 n) v2 v3 σ
      else
        (aI 34 σ 0 v3).bind fun x2 =>
        (aI 58 σ 0 x2).bind fun x3 =>
        if x3 = 0 then
          f_X6_gone_242 (f_X6_gone_177 n) v2 v3 σ
        else
          (aI 38 σ 0 v3).bind fun x4 =>
          (aI 47 σ 0 v3).bind fun x5 =>
          if x4 ≤ x5 then
            f_X6_gone_242 (f_X6_gone_177 n) v2 v3 σ
          else
            (uZ 42 σ 0 v3 (1 : Int32)).bind fun σ6 =>
            (aI 38 σ6 0 v3).bind fun x7 =>
            (uI 43 σ6 0 v3 x7).bind fun σ8 =>
            f_X6_gone_242 (f_X6_gone_177 n) v2 v3 σ8
def f_X6_gone_175 (v2 : Int32) (σ : sm_M) : Option (Int32 × sm_M) :=
  f_X6_gone_177 1000 v2 (0 : Int32) σ
def f_X6_gone_168 (k133 : Int32 → Int32 → sm_M → Option (Int32 × sm_M)) (v2 : Int32) (v3 : Int32) (s1 : Int32) (s2 : Int32) (σ : sm_M) : Option (Int32 × sm_M) :=
  (uI 23 σ 0 s1 s2).bind fun σ1 =>
  k133 v2 (v3 + 1) σ1
def f_X6_gone_133 : Nat → Int32 → Int32 → sm_M → Option (Int32 × sm_M)
  | 0, _, _, _ => none
  | n + 1, v2, v3, σ =>
    if (σ.1 20 0 0) ≤ v3 then
      f_X6_gone_175 v2 σ
    else
      (aI 58 σ 0 v3).bind fun x1 =>
      if x1 = 0 then
        (aI 23 σ 0 v3).bind fun x2 =>
        f_X6_gone_168 (f_X6_gone_133 n) v2 v3 v3 x2 σ
      else
        (f_X6_emptiest σ).bind fun q3 =>
        f_X6_gone_168 (f_X6_gone_133 n) v2 v3 v3 q3.1 q3.2
def f_X6_gone_110 (v2 : Int32) (σ : sm_M) : Option (Int32 × sm_M) :=
  if v2 = 0 then
    some ((0 : Int32), σ)
  else
    if v2 ≤ (σ.1 20 0 32) then
      f_X6_gone_133 1000 v2 (0 : Int32) σ
    else
      (sZ 20 43 σ 0 (1 : Int32)).bind fun σ1 =>
      some ((0 : Int32), σ1)
def f_X6_gone_104 (k52 : Int32 → Int32 → Int32 → sm_M → Option (Int32 × sm_M)) (v1 : Int32) (v2 : Int32) (v3 : Int32) (σ : sm_M) : Option (Int32 × sm_M) :=
  k52 v1 v2 (v3 + 1) σ
def f_X6_gone_96 (k52 : Int32 → Int32 → Int32 → sm_M → Option (Int32 × sm_M)) (v1 : Int32) (v3 : Int32) (s0 : Int32) (σ : sm_M) : Option (Int32 × sm_M) :=
  (uZ 58 σ 0 v3 (1 : Int32)).bind fun σ1 =>
  f_X6_gone_104 k52 v1 s0 v3 σ1
def f_X6_gone_52 : Nat → Int32 → Int32 → Int32 → sm_M → Option (Int32 × sm_M)
  | 0, _, _, _, _ => none
  | n + 1, v1, v2, v3, σ =>
    if (σ.1 20 0 0) ≤ v3 then
      f_X6_gone_110 v2 σ
    else
      (aI 23 σ 0 v3).bind fun x1 =>
      if x1 = v1 then
        (f_X6_blame v3 (2 : Int32) σ).bind fun q2 =>
        (aI 30 q2 0 v3).bind fun x3 =>
        if x3 ≤ v2 then
          f_X6_gone_96 (f_X6_gone_52 n) v1 v3 v2 q2
        else
          (aI 30 q2 0 v3).bind fun x4 =>
          f_X6_gone_96 (f_X6_gone_52 n) v1 v3 x4 q2
      else
        f_X6_gone_104 (f_X6_gone_52 n) v1 v2 v3 σ
def f_X6_gone_34 (σ : sm_M) : Option (Int32 × sm_M) :=
  some ((-3 : Int32), σ)
def f_X6_gone (v1 : Int32) (σ : sm_M) : Option (Int32 × sm_M) :=
  (f_X6_noNode v1 σ).bind fun q1 =>
  if q1.1 = 0 then
    (aI 50 q1.2 0 v1).bind fun x2 =>
    if x2 = 0 then
      (f_X6_nodesThere q1.2).bind fun q3 =>
      if q3.1 = (1 : Int32) then
        f_X6_gone_34 q3.2
      else
        if (q3.2.1 20 0 43) = 0 then
          (uZ 50 q3.2 0 v1 (1 : Int32)).bind fun σ4 =>
          (f_X6_noRegion σ4).bind fun q5 =>
          f_X6_gone_52 1000 v1 (0 : Int32) (0 : Int32) q5
        else
          f_X6_gone_34 q3.2
    else
      f_X6_gone_34 q1.2
  else
    some ((-1 : Int32), q1.2)
def f_X6_lose_95 (s0 : Int32) (σ : sm_M) : Option (Int32 × sm_M) :=
  some (s0, σ)
def f_X6_lose_26 (σ : sm_M) : Option (Int32 × sm_M) :=
  some ((-3 : Int32), σ)
def f_X6_lose (v1 : Int32) (σ : sm_M) : Option (Int32 × sm_M) :=
  (f_X6_noChannel v1 σ).bind fun q1 =>
  if q1.1 = 0 then
    (aI 36 q1.2 0 v1).bind fun x2 =>
    if x2 = 0 then
      f_X6_lose_26 q1.2
    else
      if (q1.2.1 20 0 43) = 0 then
        (aI 38 q1.2 0 v1).bind fun x3 =>
        (aI 47 q1.2 0 v1).bind fun x4 =>
        if x4 < x3 then
          (uZ 42 q1.2 0 v1 (1 : Int32)).bind fun σ5 =>
          (aI 38 σ5 0 v1).bind fun x6 =>
          (uI 43 σ5 0 v1 x6).bind fun σ7 =>
          (aI 40 σ7 0 v1).bind fun x8 =>
          (aI 38 σ7 0 v1).bind fun x9 =>
          if x9 ≤ x8 then
            f_X6_lose_95 (0 : Int32) σ7
          else
            (aI 34 σ7 0 v1).bind fun x10 =>
            (f_X6_failOne x10 (3 : Int32) σ7).bind fun q11 =>
            f_X6_lose_95 q11.1 q11.2
        else
          some ((0 : Int32), q1.2)
      else
        f_X6_lose_26 q1.2
  else
    some ((-1 : Int32), q1.2)
def f_X6_tick_36 (s1 : Int32) (σ : sm_M) : Option (Int32 × sm_M) :=
  (sI 20 35 σ 0 s1).bind fun σ1 =>
  some ((σ1.1 20 0 35), σ1)
def f_X6_tick (v1 : Int32) (σ : sm_M) : Option (Int32 × sm_M) :=
  (f_X6_in v1 (1 : Int32) (100 : Int32) σ).bind fun q1 =>
  if q1.1 = 0 then
    some ((-2 : Int32), q1.2)
  else
    if ((q1.2.1 20 0 35) + v1) ≤ (1000000 : Int32) then
      f_X6_tick_36 ((q1.2.1 20 0 35) + v1) q1.2
    else
      f_X6_tick_36 (1000000 : Int32) q1.2
def f_X6_waiting_39 (v1 : Int32) (σ : sm_M) : Option (Int32 × sm_M) :=
  some (v1, σ)
def f_X6_waiting_31 (k4 : Int32 → Int32 → sm_M → Option (Int32 × sm_M)) (v2 : Int32) (s0 : Int32) (s1 : Int32) (σ : sm_M) : Option (Int32 × sm_M) :=
  k4 (s0 + s1) (v2 + 1) σ
def f_X6_waiting_4 : Nat → Int32 → Int32 → sm_M → Option (Int32 × sm_M)
  | 0, _, _, _ => none
  | n + 1, v1, v2, σ =>
    if (σ.1 20 0 0) ≤ v2 then
      f_X6_waiting_39 v1 σ
    else
      (aI 31 σ 0 v2).bind fun x1 =>
      if x1 ≤ (σ.1 20 0 35) then
        f_X6_waiting_31 (f_X6_waiting_4 n) v2 v1 (0 : Int32) σ
      else
        f_X6_waiting_31 (f_X6_waiting_4 n) v2 v1 (1 : Int32) σ
def f_X6_waiting (σ : sm_M) : Option (Int32 × sm_M) :=
  f_X6_waiting_4 1000 (0 : Int32) (0 : Int32) σ
def f_X6_mark_128 (σ : sm_M) : Option (Int32 × sm_M) :=
  (sI 20 38 σ 0 ((σ.1 20 0 38) + (1 : Int32))).bind fun σ1 =>
  some ((σ1.1 20 0 38), σ1)
def f_X6_mark_71 : Nat → Int32 → sm_M → Option (Int32 × sm_M)
  | 0, _, _ => none
  | n + 1, v1, σ =>
    if (σ.1 20 0 14) ≤ v1 then
      f_X6_mark_128 σ
    else
      (aI 38 σ 0 v1).bind fun x1 =>
      (uI 47 σ 0 v1 x1).bind fun σ2 =>
      (aI 39 σ2 0 v1).bind fun x3 =>
      (uI 48 σ2 0 v1 x3).bind fun σ4 =>
      (aI 40 σ4 0 v1).bind fun x5 =>
      (uI 49 σ4 0 v1 x5).bind fun σ6 =>
      (uZ 42 σ6 0 v1 (0 : Int32)).bind fun σ7 =>
      (f_X6_mark_71 n) (v1 + 1) σ7
def f_X6_mark_69 (σ : sm_M) : Option (Int32 × sm_M) :=
  f_X6_mark_71 1000 (0 : Int32) σ
def f_X6_mark_19 : Nat → Int32 → sm_M → Option (Int32 × sm_M)
  | 0, _, _ => none
  | n + 1, v1, σ =>
    if (σ.1 20 0 0) ≤ v1 then
      f_X6_mark_69 σ
    else
      (aI 24 σ 0 v1).bind fun x1 =>
      (uI 44 σ 0 v1 x1).bind fun σ2 =>
      (aI 25 σ2 0 v1).bind fun x3 =>
      (uI 45 σ2 0 v1 x3).bind fun σ4 =>
      (aI 26 σ4 0 v1).bind fun x5 =>
      (uI 46 σ4 0 v1 x5).bind fun σ6 =>
      (f_X6_mark_19 n) (v1 + 1) σ6
def f_X6_mark_14 (σ : sm_M) : Option (Int32 × sm_M) :=
  some ((-3 : Int32), σ)
def f_X6_mark (σ : sm_M) : Option (Int32 × sm_M) :=
  (f_X6_waiting σ).bind fun q1 =>
  if 0 < q1.1 then
    f_X6_mark_14 q1.2
  else
    if (q1.2.1 20 0 43) = 0 then
      f_X6_mark_19 1000 (0 : Int32) q1.2
    else
      f_X6_mark_14 q1.2
def f_X6_region_62 (v2 : Int32) (σ : sm_M) : Option (Int32 × sm_M) :=
  some (v2, σ)
def f_X6_region_54 (k29 : Int32 → Int32 → sm_M → Option (Int32 × sm_M)) (v3 : Int32) (s0 : Int32) (s1 : Int32) (σ : sm_M) : Option (Int32 × sm_M) :=
  k29 (s0 ||| s1) (v3 + 1) σ
def f_X6_region_29 : Nat → Int32 → Int32 → sm_M → Option (Int32 × sm_M)
  | 0, _, _, _ => none
  | n + 1, v2, v3, σ =>
    if (σ.1 20 0 0) ≤ v3 then
      f_X6_region_62 v2 σ
    else
      (aI 58 σ 0 v3).bind fun x1 =>
      if x1 = 0 then
        f_X6_region_54 (f_X6_region_29 n) v3 v2 (0 : Int32) σ
      else
        f_X6_region_54 (f_X6_region_29 n) v3 v2 ((1 : Int32) <<< (v3 &&& 31)) σ
def f_X6_region (v1 : Int32) (σ : sm_M) : Option (Int32 × sm_M) :=
  (f_X6_noTask v1 σ).bind fun q1 =>
  if q1.1 = 0 then
    (f_X6_noRegion q1.2).bind fun q2 =>
    (uZ 58 q2 0 v1 (1 : Int32)).bind fun σ3 =>
    (f_X6_grow σ3).bind fun q4 =>
    f_X6_region_29 1000 (0 : Int32) (0 : Int32) q4
  else
    some ((-1 : Int32), q1.2)
def f_X6_taskAt_153 (s0 : Int32) (σ : sm_M) : Option (Int32 × sm_M) :=
  some (s0, σ)
def f_X6_taskAt_134 (s0 : Int32) (σ : sm_M) : Option (Int32 × sm_M) :=
  some (s0, σ)
def f_X6_taskAt (v1 : Int32) (v2 : Int32) (σ : sm_M) : Option (Int32 × sm_M) :=
  (f_X6_noTask v1 σ).bind fun q1 =>
  if q1.1 = 0 then
    if v2 = 0 then
      (aI 21 q1.2 0 v1).bind fun x2 =>
      some (x2, q1.2)
    else
      if v2 = 1 then
        (aI 23 q1.2 0 v1).bind fun x3 =>
        some (x3, q1.2)
      else
        if v2 = 2 then
          (aI 24 q1.2 0 v1).bind fun x4 =>
          some (x4, q1.2)
        else
          if v2 = 3 then
            (aI 25 q1.2 0 v1).bind fun x5 =>
            some (x5, q1.2)
          else
            if v2 = 4 then
              (aI 29 q1.2 0 v1).bind fun x6 =>
              some (x6, q1.2)
            else
              if v2 = 5 then
                (aI 30 q1.2 0 v1).bind fun x7 =>
                some (x7, q1.2)
              else
                if v2 = 6 then
                  (aI 31 q1.2 0 v1).bind fun x8 =>
                  if x8 ≤ (q1.2.1 20 0 35) then
                    f_X6_taskAt_134 (0 : Int32) q1.2
                  else
                    (aI 31 q1.2 0 v1).bind fun x9 =>
                    f_X6_taskAt_134 (x9 - (q1.2.1 20 0 35)) q1.2
                else
                  if v2 = 7 then
                    (f_X6_findDone q1.2).bind fun q10 =>
                    (aI 54 q10 0 v1).bind fun x11 =>
                    if x11 = 0 then
                      f_X6_taskAt_153 (0 : Int32) q10
                    else
                      f_X6_taskAt_153 (1 : Int32) q10
                  else
                    if v2 = 8 then
                      (aI 26 q1.2 0 v1).bind fun x12 =>
                      some (x12, q1.2)
                    else
                      if v2 = 9 then
                        (aI 32 q1.2 0 v1).bind fun x13 =>
                        some (x13, q1.2)
                      else
                        some ((-2 : Int32), q1.2)
  else
    some ((-1 : Int32), q1.2)
def f_X6_channelAt_154 (s0 : Int32) (σ : sm_M) : Option (Int32 × sm_M) :=
  some (s0, σ)
def f_X6_channelAt_136 (s0 : Int32) (σ : sm_M) : Option (Int32 × sm_M) :=
  some (s0, σ)
def f_X6_channelAt_88 (s0 : Int32) (σ : sm_M) : Option (Int32 × sm_M) :=
  some (s0, σ)
def f_X6_channelAt (v1 : Int32) (v2 : Int32) (σ : sm_M) : Option (Int32 × sm_M) :=
  (f_X6_noChannel v1 σ).bind fun q1 =>
  if q1.1 = 0 then
    if v2 = 0 then
      (aI 34 q1.2 0 v1).bind fun x2 =>
      some (x2, q1.2)
    else
      if v2 = 1 then
        (aI 35 q1.2 0 v1).bind fun x3 =>
        some (x3, q1.2)
      else
        if v2 = 2 then
          (aI 36 q1.2 0 v1).bind fun x4 =>
          if x4 = 0 then
            f_X6_channelAt_88 (0 : Int32) q1.2
          else
            f_X6_channelAt_88 (1 : Int32) q1.2
        else
          if v2 = 3 then
            (aI 38 q1.2 0 v1).bind fun x5 =>
            some (x5, q1.2)
          else
            if v2 = 4 then
              (aI 39 q1.2 0 v1).bind fun x6 =>
              some (x6, q1.2)
            else
              if v2 = 5 then
                (aI 40 q1.2 0 v1).bind fun x7 =>
                some (x7, q1.2)
              else
                if v2 = 6 then
                  (aI 42 q1.2 0 v1).bind fun x8 =>
                  if x8 = 0 then
                    f_X6_channelAt_136 (0 : Int32) q1.2
                  else
                    (aI 43 q1.2 0 v1).bind fun x9 =>
                    (aI 47 q1.2 0 v1).bind fun x10 =>
                    f_X6_channelAt_136 (x9 - x10) q1.2
                else
                  if v2 = 7 then
                    (f_X6_findDone q1.2).bind fun q11 =>
                    (f_X6_isOver v1 q11).bind fun q12 =>
                    if q12.1 = 0 then
                      f_X6_channelAt_154 (0 : Int32) q12.2
                    else
                      f_X6_channelAt_154 (1 : Int32) q12.2
                  else
                    if v2 = 8 then
                      (aI 41 q1.2 0 v1).bind fun x13 =>
                      some (x13, q1.2)
                    else
                      some ((-2 : Int32), q1.2)
  else
    some ((-1 : Int32), q1.2)
def f_X6_row_42 (s0 : Int32) (σ : sm_M) : Option (Int32 × sm_M) :=
  some (s0, σ)
def f_X6_row (v1 : Int32) (v2 : Int32) (σ : sm_M) : Option (Int32 × sm_M) :=
  (f_X6_noChannel v1 σ).bind fun q1 =>
  if q1.1 = 0 then
    (aI 38 q1.2 0 v1).bind fun x2 =>
    (f_X6_in v2 (0 : Int32) (x2 - (1 : Int32)) q1.2).bind fun q3 =>
    if q3.1 = 0 then
      f_X6_row_42 (-9 : Int32) q3.2
    else
      (aI 37 q3.2 0 (((64 : Int32) * v1) + v2)).bind fun x4 =>
      f_X6_row_42 x4 q3.2
  else
    some ((-1 : Int32), q1.2)
def f_X6_out_43 (s0 : Int32) (σ : sm_M) : Option (Int32 × sm_M) :=
  some (s0, σ)
def f_X6_out (v1 : Int32) (v2 : Int32) (σ : sm_M) : Option (Int32 × sm_M) :=
  (f_X6_noTask v1 σ).bind fun q1 =>
  if q1.1 = 0 then
    (aI 26 q1.2 0 v1).bind fun x2 =>
    (f_X6_in v2 (0 : Int32) (x2 - (1 : Int32)) q1.2).bind fun q3 =>
    if q3.1 = 0 then
      f_X6_out_43 (-9 : Int32) q3.2
    else
      (aI 27 q3.2 0 (((200 : Int32) * v1) + v2)).bind fun x4 =>
      f_X6_out_43 x4 q3.2
  else
    some ((-1 : Int32), q1.2)
def f_X6_aside_42 (s0 : Int32) (σ : sm_M) : Option (Int32 × sm_M) :=
  some (s0, σ)
def f_X6_aside (v1 : Int32) (v2 : Int32) (σ : sm_M) : Option (Int32 × sm_M) :=
  (f_X6_noTask v1 σ).bind fun q1 =>
  if q1.1 = 0 then
    (aI 32 q1.2 0 v1).bind fun x2 =>
    (f_X6_in v2 (0 : Int32) (x2 - (1 : Int32)) q1.2).bind fun q3 =>
    if q3.1 = 0 then
      f_X6_aside_42 (-9 : Int32) q3.2
    else
      (aI 33 q3.2 0 (((8 : Int32) * v1) + v2)).bind fun x4 =>
      f_X6_aside_42 x4 q3.2
  else
    some ((-1 : Int32), q1.2)
def f_X6_cause_62 (s0 : Int32) (σ : sm_M) : Option (Int32 × sm_M) :=
  some (s0, σ)
def f_X6_cause (v1 : Int32) (v2 : Int32) (σ : sm_M) : Option (Int32 × sm_M) :=
  (f_X6_in v2 (0 : Int32) (2 : Int32) σ).bind fun q1 =>
  if q1.1 = 0 then
    some ((-2 : Int32), q1.2)
  else
    (f_X6_in v1 (0 : Int32) ((q1.2.1 20 0 39) - (1 : Int32)) q1.2).bind fun q2 =>
    if q2.1 = 0 then
      some ((-9 : Int32), q2.2)
    else
      if v2 = 0 then
        (aI 51 q2.2 0 v1).bind fun x5 =>
        f_X6_cause_62 x5 q2.2
      else
        if v2 = (1 : Int32) then
          (aI 52 q2.2 0 v1).bind fun x4 =>
          f_X6_cause_62 x4 q2.2
        else
          (aI 53 q2.2 0 v1).bind fun x3 =>
          f_X6_cause_62 x3 q2.2
def f_X6_doneMany_39 (v1 : Int32) (σ : sm_M) : Option (Int32 × sm_M) :=
  some (v1, σ)
def f_X6_doneMany_31 (k8 : Int32 → Int32 → sm_M → Option (Int32 × sm_M)) (v2 : Int32) (s0 : Int32) (s1 : Int32) (σ : sm_M) : Option (Int32 × sm_M) :=
  k8 (s0 + s1) (v2 + 1) σ
def f_X6_doneMany_8 : Nat → Int32 → Int32 → sm_M → Option (Int32 × sm_M)
  | 0, _, _, _ => none
  | n + 1, v1, v2, σ =>
    if (σ.1 20 0 0) ≤ v2 then
      f_X6_doneMany_39 v1 σ
    else
      (aI 54 σ 0 v2).bind fun x1 =>
      if x1 = 0 then
        f_X6_doneMany_31 (f_X6_doneMany_8 n) v2 v1 (0 : Int32) σ
      else
        f_X6_doneMany_31 (f_X6_doneMany_8 n) v2 v1 (1 : Int32) σ
def f_X6_doneMany (σ : sm_M) : Option (Int32 × sm_M) :=
  (f_X6_findDone σ).bind fun q1 =>
  f_X6_doneMany_8 1000 (0 : Int32) (0 : Int32) q1
def f_X6_told_102 (s0 : Int32) (σ : sm_M) : Option (Int32 × sm_M) :=
  some (s0, σ)
def f_X6_told (v1 : Int32) (σ : sm_M) : Option (Int32 × sm_M) :=
  if v1 = 0 then
    some ((σ.1 20 0 0), σ)
  else
    if v1 = 1 then
      some ((σ.1 20 0 14), σ)
    else
      if v1 = 2 then
        some ((σ.1 20 0 36), σ)
      else
        if v1 = 3 then
          some ((σ.1 20 0 35), σ)
        else
          if v1 = 4 then
            some ((σ.1 20 0 38), σ)
          else
            if v1 = 5 then
              some ((σ.1 20 0 39), σ)
            else
              if v1 = 6 then
                if (σ.1 20 0 43) = 0 then
                  f_X6_told_102 (0 : Int32) σ
                else
                  f_X6_told_102 (1 : Int32) σ
              else
                if v1 = 7 then
                  (f_X6_waiting σ).bind fun q1 =>
                  some (q1.1, q1.2)
                else
                  if v1 = 8 then
                    (f_X6_doneMany σ).bind fun q2 =>
                    some (q2.1, q2.2)
                  else
                    if v1 = 9 then
                      (f_X6_nodesThere σ).bind fun q3 =>
                      some (q3.1, q3.2)
                    else
                      if v1 = 10 then
                        some ((σ.1 20 0 44), σ)
                      else
                        some ((-2 : Int32), σ)
def f_X6_clear (σ : sm_M) : Option (Int32 × sm_M) :=
  (f_X6_begin σ).bind fun q1 =>
  some ((σ.1 20 0 0), q1)
end
