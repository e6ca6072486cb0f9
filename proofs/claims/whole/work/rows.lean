section
-- ===== PART A: goes FIRST, ahead of the names: the tables' words, and 'selects' of the private methods out of them =====
/-- a private method of a class that the tables say can be made, by its rows of tables_1 -/
def lw_okq (q : MethodName × Nat) : Prop := (q.1.cls ≠ "java/lang/invoke/MethodHandle" ∧ q.1.cls ≠ "java/lang/invoke/VarHandle") ∧ Cond.instantiable q.1.cls q.2 ∈ tables_1 ∧ Cond.privateMethod q.1 ∈ tables_1 ∧ Cond.instanceMethod q.1 ∈ tables_1
theorem lw_p0 : lw_okq (⟨"DealDoubts$Net", "isOpen", "(I)Z"⟩, 11) := ⟨⟨by decide +kernel, by decide +kernel⟩, List.mem_of_getElem? (i := 24) (by decide +kernel), List.mem_of_getElem? (i := 123) (by decide +kernel), List.mem_of_getElem? (i := 124) (by decide +kernel)⟩
theorem lw_p1 : lw_okq (⟨"DealDoubts$Net", "isStuck", "(I)Z"⟩, 11) := ⟨⟨by decide +kernel, by decide +kernel⟩, List.mem_of_getElem? (i := 24) (by decide +kernel), List.mem_of_getElem? (i := 139) (by decide +kernel), List.mem_of_getElem? (i := 140) (by decide +kernel)⟩
theorem lw_p2 : lw_okq (⟨"DealDoubts$Net", "hashSite", "(JI)J"⟩, 11) := ⟨⟨by decide +kernel, by decide +kernel⟩, List.mem_of_getElem? (i := 24) (by decide +kernel), List.mem_of_getElem? (i := 245) (by decide +kernel), List.mem_of_getElem? (i := 246) (by decide +kernel)⟩
theorem lw_p3 : lw_okq (⟨"DealDoubts$Net", "hashDeal", "(JI)J"⟩, 11) := ⟨⟨by decide +kernel, by decide +kernel⟩, List.mem_of_getElem? (i := 24) (by decide +kernel), List.mem_of_getElem? (i := 264) (by decide +kernel), List.mem_of_getElem? (i := 265) (by decide +kernel)⟩
theorem lw_p4 : lw_okq (⟨"java/lang/Throwable", "fillInStackTrace", "(I)Ljava/lang/Throwable;"⟩, 6) := ⟨⟨by decide +kernel, by decide +kernel⟩, List.mem_of_getElem? (i := 328) (by decide +kernel), List.mem_of_getElem? (i := 326) (by decide +kernel), List.mem_of_getElem? (i := 327) (by decide +kernel)⟩
theorem lw_p5 : lw_okq (⟨"DealDoubts$History", "discardOldest", "()V"⟩, 2) := ⟨⟨by decide +kernel, by decide +kernel⟩, List.mem_of_getElem? (i := 65) (by decide +kernel), List.mem_of_getElem? (i := 405) (by decide +kernel), List.mem_of_getElem? (i := 406) (by decide +kernel)⟩
theorem lw_p6 : lw_okq (⟨"DealDoubts", "checkDealAndSite", "(II)V"⟩, 4) := ⟨⟨by decide +kernel, by decide +kernel⟩, List.mem_of_getElem? (i := 16) (by decide +kernel), List.mem_of_getElem? (i := 434) (by decide +kernel), List.mem_of_getElem? (i := 435) (by decide +kernel)⟩
theorem lw_p7 : lw_okq (⟨"DealDoubts", "checkDeal", "(I)V"⟩, 4) := ⟨⟨by decide +kernel, by decide +kernel⟩, List.mem_of_getElem? (i := 16) (by decide +kernel), List.mem_of_getElem? (i := 438) (by decide +kernel), List.mem_of_getElem? (i := 439) (by decide +kernel)⟩
theorem lw_p8 : lw_okq (⟨"DealDoubts$Net", "holdsForAnother", "(II)Z"⟩, 11) := ⟨⟨by decide +kernel, by decide +kernel⟩, List.mem_of_getElem? (i := 24) (by decide +kernel), List.mem_of_getElem? (i := 454) (by decide +kernel), List.mem_of_getElem? (i := 455) (by decide +kernel)⟩
theorem lw_p9 : lw_okq (⟨"DealDoubts$Net", "enter", "(III)V"⟩, 11) := ⟨⟨by decide +kernel, by decide +kernel⟩, List.mem_of_getElem? (i := 24) (by decide +kernel), List.mem_of_getElem? (i := 458) (by decide +kernel), List.mem_of_getElem? (i := 459) (by decide +kernel)⟩
theorem lw_p10 : lw_okq (⟨"DealDoubts$Net", "write", "(II)V"⟩, 11) := ⟨⟨by decide +kernel, by decide +kernel⟩, List.mem_of_getElem? (i := 24) (by decide +kernel), List.mem_of_getElem? (i := 462) (by decide +kernel), List.mem_of_getElem? (i := 463) (by decide +kernel)⟩
theorem lw_p11 : lw_okq (⟨"DealDoubts$Net", "areAllInDoubt", "(I)Z"⟩, 11) := ⟨⟨by decide +kernel, by decide +kernel⟩, List.mem_of_getElem? (i := 24) (by decide +kernel), List.mem_of_getElem? (i := 483) (by decide +kernel), List.mem_of_getElem? (i := 484) (by decide +kernel)⟩
theorem lw_p12 : lw_okq (⟨"DealDoubts$Net", "settle", "(II)V"⟩, 11) := ⟨⟨by decide +kernel, by decide +kernel⟩, List.mem_of_getElem? (i := 24) (by decide +kernel), List.mem_of_getElem? (i := 487) (by decide +kernel), List.mem_of_getElem? (i := 488) (by decide +kernel)⟩
theorem lw_p13 : lw_okq (⟨"DealDoubts$Net", "losesPatience", "(II)Z"⟩, 11) := ⟨⟨by decide +kernel, by decide +kernel⟩, List.mem_of_getElem? (i := 24) (by decide +kernel), List.mem_of_getElem? (i := 563) (by decide +kernel), List.mem_of_getElem? (i := 564) (by decide +kernel)⟩
theorem lw_p14 : lw_okq (⟨"DealDoubts", "perform", "(II)I"⟩, 4) := ⟨⟨by decide +kernel, by decide +kernel⟩, List.mem_of_getElem? (i := 16) (by decide +kernel), List.mem_of_getElem? (i := 714) (by decide +kernel), List.mem_of_getElem? (i := 715) (by decide +kernel)⟩
theorem lw_p15 : lw_okq (⟨"DealDoubtsModel", "holds", "(I)Z"⟩, 11) := ⟨⟨by decide +kernel, by decide +kernel⟩, List.mem_of_getElem? (i := 740) (by decide +kernel), List.mem_of_getElem? (i := 797) (by decide +kernel), List.mem_of_getElem? (i := 798) (by decide +kernel)⟩
def lw_privs_1 : List (MethodName × Nat) := [(⟨"DealDoubts$Net", "isOpen", "(I)Z"⟩, 11), (⟨"DealDoubts$Net", "isStuck", "(I)Z"⟩, 11), (⟨"DealDoubts$Net", "hashSite", "(JI)J"⟩, 11), (⟨"DealDoubts$Net", "hashDeal", "(JI)J"⟩, 11), (⟨"java/lang/Throwable", "fillInStackTrace", "(I)Ljava/lang/Throwable;"⟩, 6), (⟨"DealDoubts$History", "discardOldest", "()V"⟩, 2), (⟨"DealDoubts", "checkDealAndSite", "(II)V"⟩, 4), (⟨"DealDoubts", "checkDeal", "(I)V"⟩, 4), (⟨"DealDoubts$Net", "holdsForAnother", "(II)Z"⟩, 11), (⟨"DealDoubts$Net", "enter", "(III)V"⟩, 11), (⟨"DealDoubts$Net", "write", "(II)V"⟩, 11), (⟨"DealDoubts$Net", "areAllInDoubt", "(I)Z"⟩, 11), (⟨"DealDoubts$Net", "settle", "(II)V"⟩, 11), (⟨"DealDoubts$Net", "losesPatience", "(II)Z"⟩, 11), (⟨"DealDoubts", "perform", "(II)I"⟩, 4), (⟨"DealDoubtsModel", "holds", "(I)Z"⟩, 11)]
theorem lw_r1 : ∀ q ∈ lw_privs_1, lw_okq q := List.forall_mem_cons.mpr ⟨lw_p0, List.forall_mem_cons.mpr ⟨lw_p1, List.forall_mem_cons.mpr ⟨lw_p2, List.forall_mem_cons.mpr ⟨lw_p3, List.forall_mem_cons.mpr ⟨lw_p4, List.forall_mem_cons.mpr ⟨lw_p5, List.forall_mem_cons.mpr ⟨lw_p6, List.forall_mem_cons.mpr ⟨lw_p7, List.forall_mem_cons.mpr ⟨lw_p8, List.forall_mem_cons.mpr ⟨lw_p9, List.forall_mem_cons.mpr ⟨lw_p10, List.forall_mem_cons.mpr ⟨lw_p11, List.forall_mem_cons.mpr ⟨lw_p12, List.forall_mem_cons.mpr ⟨lw_p13, List.forall_mem_cons.mpr ⟨lw_p14, List.forall_mem_cons.mpr ⟨lw_p15, fun _ h => absurd h List.not_mem_nil⟩⟩⟩⟩⟩⟩⟩⟩⟩⟩⟩⟩⟩⟩⟩⟩
theorem lw_p16 : lw_okq (⟨"DealDoubtsModel", "save", "()V"⟩, 11) := ⟨⟨by decide +kernel, by decide +kernel⟩, List.mem_of_getElem? (i := 740) (by decide +kernel), List.mem_of_getElem? (i := 801) (by decide +kernel), List.mem_of_getElem? (i := 802) (by decide +kernel)⟩
theorem lw_p17 : lw_okq (⟨"DealDoubtsModel", "copies", "(II)V"⟩, 11) := ⟨⟨by decide +kernel, by decide +kernel⟩, List.mem_of_getElem? (i := 740) (by decide +kernel), List.mem_of_getElem? (i := 805) (by decide +kernel), List.mem_of_getElem? (i := 806) (by decide +kernel)⟩
theorem lw_p18 : lw_okq (⟨"DealDoubtsModel", "isDeal", "(I)Z"⟩, 11) := ⟨⟨by decide +kernel, by decide +kernel⟩, List.mem_of_getElem? (i := 740) (by decide +kernel), List.mem_of_getElem? (i := 813) (by decide +kernel), List.mem_of_getElem? (i := 814) (by decide +kernel)⟩
theorem lw_p19 : lw_okq (⟨"DealDoubtsModel", "canVote", "(II)Z"⟩, 11) := ⟨⟨by decide +kernel, by decide +kernel⟩, List.mem_of_getElem? (i := 740) (by decide +kernel), List.mem_of_getElem? (i := 817) (by decide +kernel), List.mem_of_getElem? (i := 818) (by decide +kernel)⟩
theorem lw_p20 : lw_okq (⟨"DealDoubtsModel", "isUpNow", "(II)Z"⟩, 11) := ⟨⟨by decide +kernel, by decide +kernel⟩, List.mem_of_getElem? (i := 740) (by decide +kernel), List.mem_of_getElem? (i := 821) (by decide +kernel), List.mem_of_getElem? (i := 822) (by decide +kernel)⟩
theorem lw_p21 : lw_okq (⟨"DealDoubtsModel", "stateOf", "(III)I"⟩, 11) := ⟨⟨by decide +kernel, by decide +kernel⟩, List.mem_of_getElem? (i := 740) (by decide +kernel), List.mem_of_getElem? (i := 825) (by decide +kernel), List.mem_of_getElem? (i := 826) (by decide +kernel)⟩
theorem lw_p22 : lw_okq (⟨"DealDoubtsModel", "isMember", "(III)Z"⟩, 11) := ⟨⟨by decide +kernel, by decide +kernel⟩, List.mem_of_getElem? (i := 740) (by decide +kernel), List.mem_of_getElem? (i := 829) (by decide +kernel), List.mem_of_getElem? (i := 830) (by decide +kernel)⟩
theorem lw_p23 : lw_okq (⟨"DealDoubtsModel", "of", "(III)I"⟩, 11) := ⟨⟨by decide +kernel, by decide +kernel⟩, List.mem_of_getElem? (i := 740) (by decide +kernel), List.mem_of_getElem? (i := 833) (by decide +kernel), List.mem_of_getElem? (i := 834) (by decide +kernel)⟩
theorem lw_p24 : lw_okq (⟨"DealDoubtsModel", "votes", "(IIZ)V"⟩, 11) := ⟨⟨by decide +kernel, by decide +kernel⟩, List.mem_of_getElem? (i := 740) (by decide +kernel), List.mem_of_getElem? (i := 837) (by decide +kernel), List.mem_of_getElem? (i := 838) (by decide +kernel)⟩
theorem lw_p25 : lw_okq (⟨"DealDoubtsModel", "isHeld", "(III)Z"⟩, 11) := ⟨⟨by decide +kernel, by decide +kernel⟩, List.mem_of_getElem? (i := 740) (by decide +kernel), List.mem_of_getElem? (i := 841) (by decide +kernel), List.mem_of_getElem? (i := 842) (by decide +kernel)⟩
theorem lw_p26 : lw_okq (⟨"DealDoubtsModel", "heldBy", "(II)I"⟩, 11) := ⟨⟨by decide +kernel, by decide +kernel⟩, List.mem_of_getElem? (i := 740) (by decide +kernel), List.mem_of_getElem? (i := 845) (by decide +kernel), List.mem_of_getElem? (i := 846) (by decide +kernel)⟩
theorem lw_p27 : lw_okq (⟨"DealDoubtsModel", "gets", "(IIII)V"⟩, 11) := ⟨⟨by decide +kernel, by decide +kernel⟩, List.mem_of_getElem? (i := 740) (by decide +kernel), List.mem_of_getElem? (i := 849) (by decide +kernel), List.mem_of_getElem? (i := 850) (by decide +kernel)⟩
theorem lw_p28 : lw_okq (⟨"DealDoubtsModel", "logs", "(III)V"⟩, 11) := ⟨⟨by decide +kernel, by decide +kernel⟩, List.mem_of_getElem? (i := 740) (by decide +kernel), List.mem_of_getElem? (i := 853) (by decide +kernel), List.mem_of_getElem? (i := 854) (by decide +kernel)⟩
theorem lw_p29 : lw_okq (⟨"DealDoubtsModel", "canDecide", "(I)Z"⟩, 11) := ⟨⟨by decide +kernel, by decide +kernel⟩, List.mem_of_getElem? (i := 740) (by decide +kernel), List.mem_of_getElem? (i := 861) (by decide +kernel), List.mem_of_getElem? (i := 862) (by decide +kernel)⟩
theorem lw_p30 : lw_okq (⟨"DealDoubtsModel", "verdict", "(I)I"⟩, 11) := ⟨⟨by decide +kernel, by decide +kernel⟩, List.mem_of_getElem? (i := 740) (by decide +kernel), List.mem_of_getElem? (i := 865) (by decide +kernel), List.mem_of_getElem? (i := 866) (by decide +kernel)⟩
theorem lw_p31 : lw_okq (⟨"DealDoubtsModel", "decides", "(III)V"⟩, 11) := ⟨⟨by decide +kernel, by decide +kernel⟩, List.mem_of_getElem? (i := 740) (by decide +kernel), List.mem_of_getElem? (i := 869) (by decide +kernel), List.mem_of_getElem? (i := 870) (by decide +kernel)⟩
def lw_privs_2 : List (MethodName × Nat) := [(⟨"DealDoubtsModel", "save", "()V"⟩, 11), (⟨"DealDoubtsModel", "copies", "(II)V"⟩, 11), (⟨"DealDoubtsModel", "isDeal", "(I)Z"⟩, 11), (⟨"DealDoubtsModel", "canVote", "(II)Z"⟩, 11), (⟨"DealDoubtsModel", "isUpNow", "(II)Z"⟩, 11), (⟨"DealDoubtsModel", "stateOf", "(III)I"⟩, 11), (⟨"DealDoubtsModel", "isMember", "(III)Z"⟩, 11), (⟨"DealDoubtsModel", "of", "(III)I"⟩, 11), (⟨"DealDoubtsModel", "votes", "(IIZ)V"⟩, 11), (⟨"DealDoubtsModel", "isHeld", "(III)Z"⟩, 11), (⟨"DealDoubtsModel", "heldBy", "(II)I"⟩, 11), (⟨"DealDoubtsModel", "gets", "(IIII)V"⟩, 11), (⟨"DealDoubtsModel", "logs", "(III)V"⟩, 11), (⟨"DealDoubtsModel", "canDecide", "(I)Z"⟩, 11), (⟨"DealDoubtsModel", "verdict", "(I)I"⟩, 11), (⟨"DealDoubtsModel", "decides", "(III)V"⟩, 11)]
theorem lw_r2 : ∀ q ∈ lw_privs_2, lw_okq q := List.forall_mem_cons.mpr ⟨lw_p16, List.forall_mem_cons.mpr ⟨lw_p17, List.forall_mem_cons.mpr ⟨lw_p18, List.forall_mem_cons.mpr ⟨lw_p19, List.forall_mem_cons.mpr ⟨lw_p20, List.forall_mem_cons.mpr ⟨lw_p21, List.forall_mem_cons.mpr ⟨lw_p22, List.forall_mem_cons.mpr ⟨lw_p23, List.forall_mem_cons.mpr ⟨lw_p24, List.forall_mem_cons.mpr ⟨lw_p25, List.forall_mem_cons.mpr ⟨lw_p26, List.forall_mem_cons.mpr ⟨lw_p27, List.forall_mem_cons.mpr ⟨lw_p28, List.forall_mem_cons.mpr ⟨lw_p29, List.forall_mem_cons.mpr ⟨lw_p30, List.forall_mem_cons.mpr ⟨lw_p31, fun _ h => absurd h List.not_mem_nil⟩⟩⟩⟩⟩⟩⟩⟩⟩⟩⟩⟩⟩⟩⟩⟩
theorem lw_p32 : lw_okq (⟨"DealDoubtsModel", "canTell", "(II)Z"⟩, 11) := ⟨⟨by decide +kernel, by decide +kernel⟩, List.mem_of_getElem? (i := 740) (by decide +kernel), List.mem_of_getElem? (i := 877) (by decide +kernel), List.mem_of_getElem? (i := 878) (by decide +kernel)⟩
theorem lw_p33 : lw_okq (⟨"DealDoubtsModel", "tells", "(III)V"⟩, 11) := ⟨⟨by decide +kernel, by decide +kernel⟩, List.mem_of_getElem? (i := 740) (by decide +kernel), List.mem_of_getElem? (i := 881) (by decide +kernel), List.mem_of_getElem? (i := 882) (by decide +kernel)⟩
theorem lw_p34 : lw_okq (⟨"DealDoubtsModel", "canAsk", "(III)Z"⟩, 11) := ⟨⟨by decide +kernel, by decide +kernel⟩, List.mem_of_getElem? (i := 740) (by decide +kernel), List.mem_of_getElem? (i := 889) (by decide +kernel), List.mem_of_getElem? (i := 890) (by decide +kernel)⟩
theorem lw_p35 : lw_okq (⟨"DealDoubtsModel", "asks", "(IIII)V"⟩, 11) := ⟨⟨by decide +kernel, by decide +kernel⟩, List.mem_of_getElem? (i := 740) (by decide +kernel), List.mem_of_getElem? (i := 893) (by decide +kernel), List.mem_of_getElem? (i := 894) (by decide +kernel)⟩
theorem lw_p36 : lw_okq (⟨"DealDoubtsModel", "helps", "(III)Z"⟩, 11) := ⟨⟨by decide +kernel, by decide +kernel⟩, List.mem_of_getElem? (i := 740) (by decide +kernel), List.mem_of_getElem? (i := 897) (by decide +kernel), List.mem_of_getElem? (i := 898) (by decide +kernel)⟩
theorem lw_p37 : lw_okq (⟨"DealDoubtsModel", "inDoubt", "(I)I"⟩, 11) := ⟨⟨by decide +kernel, by decide +kernel⟩, List.mem_of_getElem? (i := 740) (by decide +kernel), List.mem_of_getElem? (i := 905) (by decide +kernel), List.mem_of_getElem? (i := 906) (by decide +kernel)⟩
theorem lw_p38 : lw_okq (⟨"DealDoubtsModel", "comes", "(I)I"⟩, 11) := ⟨⟨by decide +kernel, by decide +kernel⟩, List.mem_of_getElem? (i := 740) (by decide +kernel), List.mem_of_getElem? (i := 913) (by decide +kernel), List.mem_of_getElem? (i := 914) (by decide +kernel)⟩
theorem lw_p39 : lw_okq (⟨"DealDoubtsModel", "passes", "(I)I"⟩, 11) := ⟨⟨by decide +kernel, by decide +kernel⟩, List.mem_of_getElem? (i := 740) (by decide +kernel), List.mem_of_getElem? (i := 921) (by decide +kernel), List.mem_of_getElem? (i := 922) (by decide +kernel)⟩
theorem lw_p40 : lw_okq (⟨"DealDoubtsModel", "ended", "(I)I"⟩, 11) := ⟨⟨by decide +kernel, by decide +kernel⟩, List.mem_of_getElem? (i := 740) (by decide +kernel), List.mem_of_getElem? (i := 925) (by decide +kernel), List.mem_of_getElem? (i := 926) (by decide +kernel)⟩
theorem lw_p41 : lw_okq (⟨"DealDoubtsModel", "ticks", "(I)V"⟩, 11) := ⟨⟨by decide +kernel, by decide +kernel⟩, List.mem_of_getElem? (i := 740) (by decide +kernel), List.mem_of_getElem? (i := 929) (by decide +kernel), List.mem_of_getElem? (i := 930) (by decide +kernel)⟩
theorem lw_p42 : lw_okq (⟨"DealDoubtsModel", "asksAll", "(III)V"⟩, 11) := ⟨⟨by decide +kernel, by decide +kernel⟩, List.mem_of_getElem? (i := 740) (by decide +kernel), List.mem_of_getElem? (i := 933) (by decide +kernel), List.mem_of_getElem? (i := 934) (by decide +kernel)⟩
theorem lw_p43 : lw_okq (⟨"DealDoubtsModel", "patienceOf", "(II)I"⟩, 11) := ⟨⟨by decide +kernel, by decide +kernel⟩, List.mem_of_getElem? (i := 740) (by decide +kernel), List.mem_of_getElem? (i := 965) (by decide +kernel), List.mem_of_getElem? (i := 966) (by decide +kernel)⟩
theorem lw_p44 : lw_okq (⟨"DealDoubtsModel", "openDeals", "()I"⟩, 11) := ⟨⟨by decide +kernel, by decide +kernel⟩, List.mem_of_getElem? (i := 740) (by decide +kernel), List.mem_of_getElem? (i := 973) (by decide +kernel), List.mem_of_getElem? (i := 974) (by decide +kernel)⟩
theorem lw_p45 : lw_okq (⟨"DealDoubtsModel", "stuckDeals", "()I"⟩, 11) := ⟨⟨by decide +kernel, by decide +kernel⟩, List.mem_of_getElem? (i := 740) (by decide +kernel), List.mem_of_getElem? (i := 981) (by decide +kernel), List.mem_of_getElem? (i := 982) (by decide +kernel)⟩
theorem lw_p46 : lw_okq (⟨"DealDoubtsModel", "helperOf", "(II)I"⟩, 11) := ⟨⟨by decide +kernel, by decide +kernel⟩, List.mem_of_getElem? (i := 740) (by decide +kernel), List.mem_of_getElem? (i := 985) (by decide +kernel), List.mem_of_getElem? (i := 986) (by decide +kernel)⟩
theorem lw_p47 : lw_okq (⟨"DealDoubtsModel", "areActions", "()Z"⟩, 11) := ⟨⟨by decide +kernel, by decide +kernel⟩, List.mem_of_getElem? (i := 740) (by decide +kernel), List.mem_of_getElem? (i := 1033) (by decide +kernel), List.mem_of_getElem? (i := 1034) (by decide +kernel)⟩
def lw_privs_3 : List (MethodName × Nat) := [(⟨"DealDoubtsModel", "canTell", "(II)Z"⟩, 11), (⟨"DealDoubtsModel", "tells", "(III)V"⟩, 11), (⟨"DealDoubtsModel", "canAsk", "(III)Z"⟩, 11), (⟨"DealDoubtsModel", "asks", "(IIII)V"⟩, 11), (⟨"DealDoubtsModel", "helps", "(III)Z"⟩, 11), (⟨"DealDoubtsModel", "inDoubt", "(I)I"⟩, 11), (⟨"DealDoubtsModel", "comes", "(I)I"⟩, 11), (⟨"DealDoubtsModel", "passes", "(I)I"⟩, 11), (⟨"DealDoubtsModel", "ended", "(I)I"⟩, 11), (⟨"DealDoubtsModel", "ticks", "(I)V"⟩, 11), (⟨"DealDoubtsModel", "asksAll", "(III)V"⟩, 11), (⟨"DealDoubtsModel", "patienceOf", "(II)I"⟩, 11), (⟨"DealDoubtsModel", "openDeals", "()I"⟩, 11), (⟨"DealDoubtsModel", "stuckDeals", "()I"⟩, 11), (⟨"DealDoubtsModel", "helperOf", "(II)I"⟩, 11), (⟨"DealDoubtsModel", "areActions", "()Z"⟩, 11)]
theorem lw_r3 : ∀ q ∈ lw_privs_3, lw_okq q := List.forall_mem_cons.mpr ⟨lw_p32, List.forall_mem_cons.mpr ⟨lw_p33, List.forall_mem_cons.mpr ⟨lw_p34, List.forall_mem_cons.mpr ⟨lw_p35, List.forall_mem_cons.mpr ⟨lw_p36, List.forall_mem_cons.mpr ⟨lw_p37, List.forall_mem_cons.mpr ⟨lw_p38, List.forall_mem_cons.mpr ⟨lw_p39, List.forall_mem_cons.mpr ⟨lw_p40, List.forall_mem_cons.mpr ⟨lw_p41, List.forall_mem_cons.mpr ⟨lw_p42, List.forall_mem_cons.mpr ⟨lw_p43, List.forall_mem_cons.mpr ⟨lw_p44, List.forall_mem_cons.mpr ⟨lw_p45, List.forall_mem_cons.mpr ⟨lw_p46, List.forall_mem_cons.mpr ⟨lw_p47, fun _ h => absurd h List.not_mem_nil⟩⟩⟩⟩⟩⟩⟩⟩⟩⟩⟩⟩⟩⟩⟩⟩
theorem lw_p48 : lw_okq (⟨"DealDoubtsModel", "readsAction", "()Z"⟩, 11) := ⟨⟨by decide +kernel, by decide +kernel⟩, List.mem_of_getElem? (i := 740) (by decide +kernel), List.mem_of_getElem? (i := 1037) (by decide +kernel), List.mem_of_getElem? (i := 1038) (by decide +kernel)⟩
theorem lw_p49 : lw_okq (⟨"DealDoubtsModel", "sign", "()I"⟩, 11) := ⟨⟨by decide +kernel, by decide +kernel⟩, List.mem_of_getElem? (i := 740) (by decide +kernel), List.mem_of_getElem? (i := 1041) (by decide +kernel), List.mem_of_getElem? (i := 1042) (by decide +kernel)⟩
theorem lw_p50 : lw_okq (⟨"DealDoubtsModel", "takes", "(I)Z"⟩, 11) := ⟨⟨by decide +kernel, by decide +kernel⟩, List.mem_of_getElem? (i := 740) (by decide +kernel), List.mem_of_getElem? (i := 1045) (by decide +kernel), List.mem_of_getElem? (i := 1046) (by decide +kernel)⟩
theorem lw_p51 : lw_okq (⟨"DealDoubtsModel", "readsTicks", "()Z"⟩, 11) := ⟨⟨by decide +kernel, by decide +kernel⟩, List.mem_of_getElem? (i := 740) (by decide +kernel), List.mem_of_getElem? (i := 1049) (by decide +kernel), List.mem_of_getElem? (i := 1050) (by decide +kernel)⟩
theorem lw_p52 : lw_okq (⟨"DealDoubtsModel", "digit", "(I)I"⟩, 11) := ⟨⟨by decide +kernel, by decide +kernel⟩, List.mem_of_getElem? (i := 740) (by decide +kernel), List.mem_of_getElem? (i := 1053) (by decide +kernel), List.mem_of_getElem? (i := 1054) (by decide +kernel)⟩
theorem lw_p53 : lw_okq (⟨"DealDoubtsModel", "can", "()Z"⟩, 11) := ⟨⟨by decide +kernel, by decide +kernel⟩, List.mem_of_getElem? (i := 740) (by decide +kernel), List.mem_of_getElem? (i := 1061) (by decide +kernel), List.mem_of_getElem? (i := 1062) (by decide +kernel)⟩
theorem lw_p54 : lw_okq (⟨"DealDoubtsModel", "does", "()V"⟩, 11) := ⟨⟨by decide +kernel, by decide +kernel⟩, List.mem_of_getElem? (i := 740) (by decide +kernel), List.mem_of_getElem? (i := 1065) (by decide +kernel), List.mem_of_getElem? (i := 1066) (by decide +kernel)⟩
theorem lw_p55 : lw_okq (⟨"DealDoubtsModel", "mix", "(J)V"⟩, 11) := ⟨⟨by decide +kernel, by decide +kernel⟩, List.mem_of_getElem? (i := 740) (by decide +kernel), List.mem_of_getElem? (i := 1082) (by decide +kernel), List.mem_of_getElem? (i := 1083) (by decide +kernel)⟩
def lw_privs_4 : List (MethodName × Nat) := [(⟨"DealDoubtsModel", "readsAction", "()Z"⟩, 11), (⟨"DealDoubtsModel", "sign", "()I"⟩, 11), (⟨"DealDoubtsModel", "takes", "(I)Z"⟩, 11), (⟨"DealDoubtsModel", "readsTicks", "()Z"⟩, 11), (⟨"DealDoubtsModel", "digit", "(I)I"⟩, 11), (⟨"DealDoubtsModel", "can", "()Z"⟩, 11), (⟨"DealDoubtsModel", "does", "()V"⟩, 11), (⟨"DealDoubtsModel", "mix", "(J)V"⟩, 11)]
theorem lw_r4 : ∀ q ∈ lw_privs_4, lw_okq q := List.forall_mem_cons.mpr ⟨lw_p48, List.forall_mem_cons.mpr ⟨lw_p49, List.forall_mem_cons.mpr ⟨lw_p50, List.forall_mem_cons.mpr ⟨lw_p51, List.forall_mem_cons.mpr ⟨lw_p52, List.forall_mem_cons.mpr ⟨lw_p53, List.forall_mem_cons.mpr ⟨lw_p54, List.forall_mem_cons.mpr ⟨lw_p55, fun _ h => absurd h List.not_mem_nil⟩⟩⟩⟩⟩⟩⟩⟩
def lw_privs : List (MethodName × Nat) := lw_privs_1 ++ (lw_privs_2 ++ (lw_privs_3 ++ (lw_privs_4)))
def lw_tbl : List Cond := k2_sels lw_privs ++ tables_1
theorem lw_privs_ok : ∀ q ∈ lw_privs, lw_okq q := by
  show ∀ q ∈ lw_privs_1 ++ (lw_privs_2 ++ (lw_privs_3 ++ (lw_privs_4))), lw_okq q
  exact List.forall_mem_append.mpr ⟨lw_r1, List.forall_mem_append.mpr ⟨lw_r2, List.forall_mem_append.mpr ⟨lw_r3, lw_r4⟩⟩⟩
/-- the streams that the claim lets the run draw from -/
abbrev lw_cs : List Choice := [Jvm.Choice.named "NaN.bits"]
theorem lw_bits : nanBits ∈ lw_cs := by first | decide | exact List.mem_cons_self | simp [lw_cs, nanBits]
end
section
/-! ===== BEGIN words of one list among another's, by their places ===== -/
theorem goodIn_r {big : List Cond} (ws : List Cond) (ps : List Nat) (hp : ws = ps.filterMap (fun i => big[i]?)) (h : ws.all goodWord = true) : GoodIn big ws := by
  intro w hw
  have h1 := List.all_eq_true.mp h w hw
  rw [hp] at hw
  obtain ⟨i, -, hi⟩ := List.mem_filterMap.mp hw
  have hm : w ∈ big := by first | exact List.mem_of_getElem? hi | exact List.getElem?_mem hi
  exact ⟨hm, good_of_word h1⟩
theorem goodIn_app {big a b : List Cond} (ha : GoodIn big a) (hb : GoodIn big b) : GoodIn big (a ++ b) := fun w h => (List.mem_append.mp h).elim (ha w) (hb w)
theorem goodIn_ca {big a b : List Cond} {c : Cond} (ha : GoodIn big (c :: a)) (hb : GoodIn big b) : GoodIn big (c :: (a ++ b)) := fun w h => (List.mem_cons.mp h).elim (fun e => ha w (List.mem_cons.mpr (Or.inl e))) (fun h => (List.mem_append.mp h).elim (fun h => ha w (List.mem_cons.mpr (Or.inr h))) (hb w))
theorem goodIn_sub {big ws : List Cond} (hm : ∀ w ∈ ws, w ∈ big) (h : ws.all goodWord = true) : GoodIn big ws := fun w hw => ⟨hm w hw, good_of_word (List.all_eq_true.mp h w hw)⟩
/-! ===== END ===== -/

/-! ===== BEGIN exceptions that leave a method, and their catching by the caller (launches without stack traces) ===== -/
section VXA
/-! The laws vx_back, vx_callV, vx_callS, vx_callSW, vx_throw0, vx_throwS follow proofs of the library, with one case more: JvmDerived/Free/Laws.lean (Back.of_free), Shelf42/LK1.lean (callV, callS), Shelf/KitTraced.lean (throwNew0V, throwNewS). -/
/-- where a method has thrown q: the class by its name, the cell, what was written, the world -/
def vx_T (XC : String → State → State → Prop) (st : State) (q : Addr) (t : State) (mc ms : Nat) (free : Addr → Prop) : Prop :=
  ∃ (E : String) (ce : Cell) (L : List Loc), XC E st t ∧ t.heap[q]? = some ce ∧ ce.vm = .none ∧ st.vm.findClass E = some ce.cls ∧ st.WarmedH t.vm ∧ st.sameButNew ({ t with vm := st.vm } : State) L mc ms ∧ ∀ z ∈ L, free z.base
def vx_Q (Qc : Array Value → State → Outcome → State → Prop) (XC : String → State → State → Prop) (mc ms : Nat) (free : Addr → Prop) : Array Value → State → Outcome → State → Prop := fun a st o t =>
  (Qc a st o t ∧ ∃ L, FrameEnd st o t L mc ms ∧ ∀ q ∈ L, free q.base) ∨ ∃ q, o = .threw q ∧ vx_T XC st q t mc ms free
/-- a callee that returns or throws -/
def vx_Met (l : Launch) (y : MethodName) (ws : List Cond) (rm : Room) (Pc : Array Value → State → Prop) (Qc : Array Value → State → Outcome → State → Prop) (XC : String → State → State → Prop) (mc ms : Nat) (free : Addr → Prop) : Prop :=
  MetFree l y (headSpec ws rm) Pc (fun _ _ _ _ _ => True) (vx_Q Qc XC mc ms free)
def vx_Post (XC : String → State → State → Prop) (mc ms : Nat) (free : Addr → Prop) : Pt → Array Value → Addr → Pt → Prop := fun A a q B =>
  ∃ (g : JFrame) (mk : MethodId) (t : State) (L : List Loc) (E : String) (ce : Cell), B.U.heap = t.heap ∧ B.U.vm = t.vm ∧ XC E (A.U.calling g mk a) t ∧ t.heap[q]? = some ce ∧ ce.vm = .none ∧ A.U.vm.findClass E = some ce.cls ∧ B.locs = A.locs ++ L ∧ (∀ z ∈ L, free z.base) ∧ B.cells = A.cells + mc ∧ B.slots = A.slots + ms
def vx_Back (l : Launch) (R : Room) (p : Program) (e : Env) (below : List Frame) (s : State) (sargs : Array Value) (y : MethodName) (len W9 : Nat)
    (Pre : Pt → Array Value → Prop) (Post : Pt → Array Value → Option Value → Pt → Prop) (PostX : Pt → Array Value → Addr → Pt → Prop) : Prop :=
  ∀ (m : MethodId) (meth : Method) (c : Code) (A : Pt) (g : JFrame) (ig : Instr) (mk : MethodId) (a : Array Value),
    Stand p l e R s m sargs below meth c A.U A.locs A.cells A.slots → g.method = m → g.locals.size = c.maxLocals → decode c.code g.pc = .ok (ig, len) →
    2 * g.monitorRoom + (g.stack.map fun v => v.category).sum ≤ W9 → A.U.methodNamed? y = some mk → Pre A a →
    (∃ (v : Option Value) (B : Pt), Stand p l e R s m sargs below meth c B.U B.locs B.cells B.slots ∧ Post A a v B ∧
      Steps p.tables e below (doInvoke e (A.U.setTop g) [] mk a).1 (B.U.setTop { g with pc := g.pc + len, stack := v.toList ++ g.stack })) ∨
    (∃ (q : Addr) (B : Pt), Stand p l e R s m sargs below meth c B.U B.locs B.cells B.slots ∧ PostX A a q B ∧
      Steps p.tables e below (doInvoke e (A.U.setTop g) [] mk a).1 ((B.U.setTop g).pushFrame (.throwing q)))
section Payer
variable {l : Launch} {R : Room} {p : Program} {e : Env} {below : List Frame} {s : State} {sargs : Array Value} {y : MethodName} {len W9 : Nat}
theorem vx_back {ws : List Cond} {rm : Room} {Pc : Array Value → State → Prop} {Qc : Array Value → State → Outcome → State → Prop} {XC : String → State → State → Prop} {mc ms : Nat} {free : Addr → Prop} {bytes : ByteArray} {maxL : Nat} {ret : Option FieldType}
    (hM : vx_Met l y ws rm Pc Qc XC mc ms free) (hblind : FrameBlind Pc) (hrc : rm.cells = mc) (hrs : rm.slots = ms)
    (hframes : rm.frames + 1 ≤ R.frames) (hlocals : W9 + (maxL + 11) + rm.locals ≤ R.locals)
    (hws : ∀ w ∈ ws, ∀ a' U, s.WarmedH U.vm → w.before a' U = true) (hcode : Cond.code y bytes maxL ret ∈ ws) (hinit : ∀ a' U, s.WarmedH U.vm → (Cond.initialized y.cls).before a' U = true) :
    vx_Back l R p e below s sargs y len W9 (PreOf R mc ms Pc) (PostOf Qc mc ms free) (vx_Post XC mc ms free) := by
  intro m meth c A g ig mk a X hg hsize hdg hW hn hp
  have h1 : (headSpec ws rm).pre.before a A.U = true := atoms_intro fun w hw => hws w hw _ _ X.warmed
  have h2 : (Cond.code y bytes maxL ret).before a A.U = true := hws _ hcode _ _ X.warmed
  have h3 : (Cond.initialized y.cls).before a A.U = true := hinit _ _ X.warmed
  have h4 : A.cells + (headSpec ws rm).room.cells ≤ R.cells := by rw [show (headSpec ws rm).room.cells = mc from hrc]; exact hp.1
  have h5 : A.slots + (headSpec ws rm).room.slots ≤ R.slots := by rw [show (headSpec ws rm).room.slots = ms from hrs]; exact hp.2.1
  have hPc : Pc a (A.U.calling g mk a) := hblind _ _ _ _ hp.2.2
  obtain ⟨U, Ls, c0, s0⟩ := A
  dsimp only [Pt.U, Pt.locs, Pt.cells, Pt.slots] at h1 h2 h3 h4 h5 X hn hPc ⊢
  obtain ⟨methY, cY, hmY, hcY, -, hlY, -, -, -, -⟩ := Cond.code_spec hn h2
  obtain ⟨kY, hkY, -⟩ := className_of_methodNamed hn
  have hinitY : kY.init = .initialized := Cond.initialized_spec (findClass_of_methodNamed hn) hkY h3
  have h : At U g.method c below := by rw [hg]; exact X.here
  have hlocals9 : W9 + (maxL + 11) + (headSpec ws rm).room.locals ≤ R.locals := hlocals
  have happ : (headSpec ws rm).appliesLoose y e.platform (U.calling g mk a) = true :=
    Spec.appliesLoose_calling (g := g) h hdg hn hkY hinitY
      (X.room_calling (g := g) (R' := (headSpec ws rm).room) hsize hmY hcY hframes (by rw [hlY]; omega) h4 h5) h1
  obtain ⟨mid, hmid⟩ := h.above
  have hfr : (U.setTop g).frames = (.java g :: mid) ++ below := by rw [State.frames_setTop' g h.top, hmid]; rfl
  obtain ⟨o, s₂, hsteps, -, hend, hq⟩ := Steps.callFree hM p X.admits X.cas X.clock (acts := []) hfr happ hPc trivial
  have hq' : vx_Q Qc XC mc ms free a (U.calling g mk a) o s₂ := hq
  rw [State.frames_setTop' g h.top] at hend
  obtain ⟨g₀, hg0⟩ := Option.isSome_iff_exists.mp h.top
  obtain ⟨r, hr⟩ := State.topJava?_eq_some.mp hg0
  have hr' : (({ U with heap := s₂.heap, slotsUsed := s₂.slotsUsed } : State).setVm s₂.vm).frames = .java g₀ :: r := hr
  rcases hq' with ⟨hqc, L, hfe, hL⟩ | ⟨q, rfl, E, ce, L, hx, hce, hcv, hcl, hW₂, hsm, hL⟩
  · obtain ⟨⟨v, rfl⟩, hW₂, e2, q2, q3, q4, q5, q6⟩ := id hfe
    have e3 : s₂ = ({ (U.calling g mk a).setFrames s₂.frames with heap := s₂.heap, slotsUsed := s₂.slotsUsed } : State).setVm s₂.vm := by
      have : s₂ = ({ s₂ with vm := (U.calling g mk a).vm } : State).setVm s₂.vm := rfl
      rw [e2] at this
      exact this
    obtain ⟨c₂, i₂, len₂, hc₂, hd₂, hf₂⟩ := hend
    have hW' : U.WarmedH s₂.vm := hW₂
    have hcc : c₂ = c := by
      have h1 : s₂.code? g.method = U.code? g.method := by
        rw [State.code?_eq, State.code?_eq, hW'.alike.method?]
      exact Option.some.inj (hc₂.symm.trans (h1.trans h.code))
    subst hcc
    have hlen : len₂ = len := by rw [hdg] at hd₂; cases hd₂; rfl
    subst hlen
    have hs₂ : s₂ = (({ U with heap := s₂.heap, slotsUsed := s₂.slotsUsed } : State).setVm s₂.vm).setTop { g with pc := g.pc + len₂, stack := v.toList ++ g.stack } := by
      refine e3.trans ?_
      rw [hf₂, State.calling_eq h.top, State.setFrames_setFrames, State.setTop_of_frames _ hr', hr]
      rfl
    have hsame : U.sameButNew ({ U with heap := s₂.heap, slotsUsed := s₂.slotsUsed } : State) L mc ms := by
      refine ⟨?_, q2, q3, q4, q5, q6⟩
      obtain ⟨t, ht, -⟩ := State.frames_cons hr
      show ({ U with heap := s₂.heap, slotsUsed := s₂.slotsUsed } : State) = { U.setFrames U.frames with heap := s₂.heap, slotsUsed := s₂.slotsUsed }
      rw [State.setFrames_self ht]
    subst hg
    refine Or.inl ⟨v, ⟨(({ U with heap := s₂.heap, slotsUsed := s₂.slotsUsed } : State).setVm s₂.vm), Ls ++ L, c0 + mc, s0 + ms⟩,
      ⟨X.admits, X.cas, X.clock, X.frames, X.room, X.hears, X.method, X.code, (X.here.setHeapUsed s₂.heap s₂.slotsUsed).setVm hW'.alike, X.tail, State.WarmedH.trans X.warmed hW', X.limits, X.bytes, X.same.trans (hsame.setVm s.vm)⟩,
      ⟨g, mk, s₂, L, rfl, rfl, hqc, rfl, hL, rfl, rfl⟩, ?_⟩
    show Steps p.tables e below _ ((({ U with heap := s₂.heap, slotsUsed := s₂.slotsUsed } : State).setVm s₂.vm).setTop { g with pc := g.pc + len₂, stack := v.toList ++ g.stack })
    rw [← hs₂]
    exact hsteps
  · obtain ⟨e2, q2, q3, q4, q5, q6⟩ := id hsm
    have e3 : s₂ = ({ (U.calling g mk a).setFrames s₂.frames with heap := s₂.heap, slotsUsed := s₂.slotsUsed } : State).setVm s₂.vm := by
      have : s₂ = ({ s₂ with vm := (U.calling g mk a).vm } : State).setVm s₂.vm := rfl
      rw [e2] at this
      exact this
    have hf₂ : s₂.frames = .throwing q :: .java g :: U.frames.tail := hend
    have hW' : U.WarmedH s₂.vm := hW₂
    have hs₂ : s₂ = ((({ U with heap := s₂.heap, slotsUsed := s₂.slotsUsed } : State).setVm s₂.vm).setTop g).pushFrame (.throwing q) := by
      refine e3.trans ?_
      rw [hf₂, State.calling_eq h.top, State.setFrames_setFrames, State.pushFrame, State.frames_setTop _ hr', State.setTop_of_frames _ hr', State.setFrames_setFrames, hr]
      rfl
    have hsame : U.sameButNew ({ U with heap := s₂.heap, slotsUsed := s₂.slotsUsed } : State) L mc ms := by
      refine ⟨?_, q2, q3, q4, q5, q6⟩
      obtain ⟨t, ht, -⟩ := State.frames_cons hr
      show ({ U with heap := s₂.heap, slotsUsed := s₂.slotsUsed } : State) = { U.setFrames U.frames with heap := s₂.heap, slotsUsed := s₂.slotsUsed }
      rw [State.setFrames_self ht]
    subst hg
    refine Or.inr ⟨q, ⟨(({ U with heap := s₂.heap, slotsUsed := s₂.slotsUsed } : State).setVm s₂.vm), Ls ++ L, c0 + mc, s0 + ms⟩,
      ⟨X.admits, X.cas, X.clock, X.frames, X.room, X.hears, X.method, X.code, (X.here.setHeapUsed s₂.heap s₂.slotsUsed).setVm hW'.alike, X.tail, State.WarmedH.trans X.warmed hW', X.limits, X.bytes, X.same.trans (hsame.setVm s.vm)⟩,
      ⟨g, mk, s₂, L, E, ce, rfl, rfl, hx, hce, hcv, hcl, rfl, hL, rfl, rfl⟩, ?_⟩
    show Steps p.tables e below _ (((({ U with heap := s₂.heap, slotsUsed := s₂.slotsUsed } : State).setVm s₂.vm).setTop g).pushFrame (.throwing q))
    rw [← hs₂]
    exact hsteps
end Payer
section Calls
variable {p : Program} {l : Launch} {e : Env} {R : Room} {s : State} {m : MethodId} {args : Array Value} {below : List Frame} {meth : Method} {c : Code} {T : State} {locs : List Loc} {cells slots : Nat}
theorem vx_callV (X : Stand p l e R s m args below meth c T locs cells slots) (hexec : p.tables.exec = Jvm.exec) {own C : String} {index : Nat} {y : MethodName} {bytes : ByteArray} {maxL : Nat} {ret : Option FieldType}
    (hown : s.vm.findClass own = some m.cls) (hlink : (Cond.methodLink own index y).before args s = true) (hinst : (Cond.instanceMethod y).before args s = true) (hsel : (Cond.selects C y y).before args s = true)
    (hcode : (Cond.code y bytes maxL ret).before args s = true) (hy : y.cls ≠ "java/lang/invoke/MethodHandle" ∧ y.cls ≠ "java/lang/invoke/VarHandle")
    {W9 : Nat} {Pre : Pt → Array Value → Prop} {Post : Pt → Array Value → Option Value → Pt → Prop} {PostX : Pt → Array Value → Addr → Pt → Prop} (hK : vx_Back l R p e below s args y 3 W9 Pre Post PostX)
    {b : Addr} {cellB : Cell} (hcell : T.heap[b]? = some cellB) (hobj : cellB.vm.isStatics = false) (hcls : s.vm.findClass C = some cellB.cls)
    {g : JFrame} (hg : g.method = m) (hsize : g.locals.size = c.maxLocals) {argsL rest : List Value} (hlen : ∀ sig, parseMethodDescriptor y.desc = some sig → argsL.length = sig.parameters.length)
    (hstack : g.stack = argsL.reverse ++ .ref b :: rest) (hW : 2 * g.monitorRoom + (rest.map fun v => v.category).sum ≤ W9) (hdg : decode c.code g.pc = .ok (.invokevirtual index, 3))
    (hpre : ∀ vm₁, s.WarmedH vm₁ → Pre ⟨T.setVm vm₁, locs, cells, slots⟩ (Value.ref b :: argsL).toArray) :
    (∃ (v : Option Value) (vm₁ : Vm) (B : Pt), s.WarmedH vm₁ ∧ Stand p l e R s m args below meth c B.U B.locs B.cells B.slots ∧ Post ⟨T.setVm vm₁, locs, cells, slots⟩ (Value.ref b :: argsL).toArray v B ∧
      ∀ target, Steps p.tables e below (B.U.setTop { g with pc := g.pc + 3, stack := v.toList ++ rest }) target → Steps p.tables e below (T.setTop g) target) ∨
    (∃ (q : Addr) (vm₁ : Vm) (B : Pt), s.WarmedH vm₁ ∧ Stand p l e R s m args below meth c B.U B.locs B.cells B.slots ∧ PostX ⟨T.setVm vm₁, locs, cells, slots⟩ (Value.ref b :: argsL).toArray q B ∧
      Steps p.tables e below (T.setTop g) ((B.U.setTop { g with stack := rest }).pushFrame (.throwing q))) := by
  obtain ⟨mk, methM, hnamed, hmethM, hstM, habM⟩ := Cond.instanceMethod_spec hinst
  obtain ⟨methM', cM, hmethM', -, -, -, -, -, -, hsigM⟩ := Cond.code_spec hnamed hcode
  cases hmethM.symm.trans hmethM'
  obtain ⟨c2, r2, m2, q1, q2, q3, q4, kP, hkP, hkPi⟩ := Cond.selects_spec hsel
  cases hcls.symm.trans q1
  cases (State.methodFound?_of_named hnamed hy).symm.trans q2
  cases hnamed.symm.trans q3
  have hselP : selectMethod e.platform s.vm cellB.cls mk = .method mk := by rw [Launch.admits_selectMethod X.admits]; exact q4
  obtain ⟨vm₁, X₁, hstep₁⟩ := X.invokevirtual hexec hown hlink hnamed hmethM hstM hkP hkPi hy (a := b) (cell := cellB) hcell
    (fun z h => by rw [h] at hobj; cases hobj) hselP hmethM habM hkP hkPi (g := g) hg (argsL := argsL) (rest := rest) (hlen _ hsigM) hstack hdg
  rcases hK m meth c ⟨T.setVm vm₁, locs, cells, slots⟩ { g with stack := rest } (.invokevirtual index) mk (Value.ref b :: argsL).toArray X₁ hg hsize hdg hW (X₁.named hnamed) (hpre vm₁ X₁.warmed) with ⟨v, B, X', hpost, hsteps⟩ | ⟨q, B, X', hpost, hsteps⟩
  · exact Or.inl ⟨v, vm₁, B, X₁.warmed, X', hpost, fun target h => hstep₁ _ fun acts => by rw [doInvoke_state]; exact hsteps.trans h⟩
  · exact Or.inr ⟨q, vm₁, B, X₁.warmed, X', hpost, hstep₁ _ fun acts => by rw [doInvoke_state]; exact hsteps⟩
theorem vx_callS (X : Stand p l e R s m args below meth c T locs cells slots) (hexec : p.tables.exec = Jvm.exec) {own : String} {index : Nat} {y : MethodName} {bytes : ByteArray} {maxL : Nat} {ret : Option FieldType}
    (hown : s.vm.findClass own = some m.cls) (hlink : (Cond.methodLink own index y).before args s = true) (hstat : (Cond.static y).before args s = true) (hinit : (Cond.initialized y.cls).before args s = true)
    (hcode : (Cond.code y bytes maxL ret).before args s = true) (hy : y.cls ≠ "java/lang/invoke/MethodHandle" ∧ y.cls ≠ "java/lang/invoke/VarHandle")
    {W9 : Nat} {Pre : Pt → Array Value → Prop} {Post : Pt → Array Value → Option Value → Pt → Prop} {PostX : Pt → Array Value → Addr → Pt → Prop} (hK : vx_Back l R p e below s args y 3 W9 Pre Post PostX)
    {g : JFrame} (hg : g.method = m) (hsize : g.locals.size = c.maxLocals) {argsL rest : List Value} (hlen : ∀ sig, parseMethodDescriptor y.desc = some sig → argsL.length = sig.parameters.length)
    (hstack : g.stack = argsL.reverse ++ rest) (hW : 2 * g.monitorRoom + (rest.map fun v => v.category).sum ≤ W9) (hdg : decode c.code g.pc = .ok (.invokestatic index, 3))
    (hpre : ∀ vm₁, s.WarmedH vm₁ → Pre ⟨T.setVm vm₁, locs, cells, slots⟩ argsL.toArray) :
    (∃ (v : Option Value) (vm₁ : Vm) (B : Pt), s.WarmedH vm₁ ∧ Stand p l e R s m args below meth c B.U B.locs B.cells B.slots ∧ Post ⟨T.setVm vm₁, locs, cells, slots⟩ argsL.toArray v B ∧
      ∀ target, Steps p.tables e below (B.U.setTop { g with pc := g.pc + 3, stack := v.toList ++ rest }) target → Steps p.tables e below (T.setTop g) target) ∨
    (∃ (q : Addr) (vm₁ : Vm) (B : Pt), s.WarmedH vm₁ ∧ Stand p l e R s m args below meth c B.U B.locs B.cells B.slots ∧ PostX ⟨T.setVm vm₁, locs, cells, slots⟩ argsL.toArray q B ∧
      Steps p.tables e below (T.setTop g) ((B.U.setTop { g with stack := rest }).pushFrame (.throwing q))) := by
  obtain ⟨mk, hnamed⟩ := Cond.code_named hcode
  obtain ⟨methM, cM, hmethM, -, -, -, -, -, -, hsigM⟩ := Cond.code_spec hnamed hcode
  have hstatic : methM.isStatic = true := Cond.static_spec hnamed hmethM hstat
  obtain ⟨kP, hkP, -⟩ := className_of_methodNamed hnamed
  have hinitP : kP.init = .initialized := Cond.initialized_spec (findClass_of_methodNamed hnamed) hkP hinit
  obtain ⟨vm₁, X₁, hstep₁⟩ := X.invokestatic hexec hown hlink hnamed hmethM hstatic hkP hinitP hy (g := g) hg (argsL := argsL) (rest := rest) (hlen _ hsigM) hstack hdg
  rcases hK m meth c ⟨T.setVm vm₁, locs, cells, slots⟩ { g with stack := rest } (.invokestatic index) mk argsL.toArray X₁ hg hsize hdg hW (X₁.named hnamed) (hpre vm₁ X₁.warmed) with ⟨v, B, X', hpost, hsteps⟩ | ⟨q, B, X', hpost, hsteps⟩
  · exact Or.inl ⟨v, vm₁, B, X₁.warmed, X', hpost, fun target h => hstep₁ _ fun acts => by rw [doInvoke_state]; exact hsteps.trans h⟩
  · exact Or.inr ⟨q, vm₁, B, X₁.warmed, X', hpost, hstep₁ _ fun acts => by rw [doInvoke_state]; exact hsteps⟩
end Calls
theorem vx_cls {s : State} {T : State} {vm₁ : Vm} {E : String} {k : ClassId} (hW : s.WarmedH vm₁) (h : (T.setVm vm₁).vm.findClass E = some k) : s.vm.findClass E = some k := by
  have h1 : vm₁.findClass E = some k := h
  rw [hW.alike.findClass] at h1
  exact h1
/-- the method's frame g, with q thrown over it -/
def vx_W (p : Program) (l : Launch) (e : Env) (R : Room) (s : State) (m : MethodId) (args : Array Value) (below : List Frame) (meth : Method) (c : Code) (H : Heap) (locs : List Loc) (cells slots : Nat) (Q : State → Prop) (g : JFrame) (q : Addr) : Prop :=
  ∀ T : State, T.heap = H → Stand p l e R s m args below meth c T locs cells slots → ∃ t, Steps p.tables e below ((T.setTop g).pushFrame (.throwing q)) t ∧ Q t
def vx_Run (p : Program) (l : Launch) (e : Env) (R : Room) (s : State) (m : MethodId) (args : Array Value) (below : List Frame) (meth : Method) (c : Code) (H : Heap) (locs : List Loc) (cells slots mc ms : Nat) (g : JFrame) (rest : List Value) (Qa : State → Outcome → State → Prop) (XC : String → State → State → Prop) (free : Addr → Prop) : Prop :=
  ∀ T : State, T.heap = H → Stand p l e R s m args below meth c T locs cells slots →
    (∃ (v : Option Value) (st₀ t T' : State) (L : List Loc), st₀.heap = H ∧ Stand p l e R s m args below meth c T' (locs ++ L) (cells + mc) (slots + ms) ∧ (∀ q ∈ L, free q.base) ∧ T'.heap = t.heap ∧ T'.vm = t.vm ∧ Qa st₀ (.returned v) t ∧
      Goes p e below T g T' { g with pc := g.pc + 3, stack := v.toList ++ rest }) ∨
    (∃ (q : Addr) (st₀ t T' : State) (L : List Loc) (E : String) (ce : Cell), st₀.heap = H ∧ Stand p l e R s m args below meth c T' (locs ++ L) (cells + mc) (slots + ms) ∧ (∀ z ∈ L, free z.base) ∧ T'.heap = t.heap ∧ T'.vm = t.vm ∧ XC E st₀ t ∧ t.heap[q]? = some ce ∧ ce.vm = .none ∧ s.vm.findClass E = some ce.cls ∧
      Steps p.tables e below (T.setTop g) ((T'.setTop { g with stack := rest }).pushFrame (.throwing q)))
def vx_X {S : Type} (px : S → Prop) (B : String → S → State → Prop) (A : Nat → Prop) : String → State → State → Prop := fun E st t => ∃ u : S, px u ∧ B E u t ∧ va_F A st t
section Runs
variable {p : Program} {l : Launch} {e : Env} {R : Room} {s : State} {m : MethodId} {args : Array Value} {below : List Frame} {meth : Method} {c : Code} {H : Heap} {locs : List Loc} {cells slots : Nat}
variable {y : MethodName} {bytes cc : ByteArray} {maxL nL mc ms n index : Nat} {ret : Option FieldType} {ws : List Cond} {rm : Room} {Pc : Array Value → State → Prop} {Qc : Array Value → State → Outcome → State → Prop} {XC : String → State → State → Prop} {free : Addr → Prop} {Ts : List Cond} {own C : String} {b : Addr} {As rest : List Value} {g : JFrame}
theorem vx_callBack (cb : CallB R s args own index y bytes maxL ret ws rm mc ms n) (hM : vx_Met l y ws rm Pc Qc XC mc ms free) (hbl : FrameBlind Pc) : vx_Back l R p e below s args y 3 8 (PreOf R mc ms Pc) (PostOf Qc mc ms free) (vx_Post XC mc ms free) := by
  obtain ⟨hrc, hrs, hfr, hlo, hws, hcw, -, hini, -⟩ := cb
  exact vx_back (bytes := bytes) (maxL := maxL) (ret := ret) hM hbl hrc hrs hfr hlo hws hcw (fun a' U hW => word_at hW (Or.inl (by first | rfl | simp [Cond.onTables, Cond.keeps, Cond.steady])) hini)
theorem vx_runV (S : CallFix p m c cc nL s args Ts own) (hM : vx_Met l y ws rm Pc Qc XC mc ms free) (cw : CallW R s args own C index y bytes maxL ret ws rm mc ms n) (hp : PreV s H C b Pc As)
    (hg : g.method = m) (hn : As.length = n) (hsize : g.locals.size = nL) (hstack : g.stack = As.reverse ++ .ref b :: rest) (hW : 2 * g.monitorRoom + (rest.map fun v => v.category).sum ≤ 8) (hdg : decode cc g.pc = .ok (.invokevirtual index, 3)) (hf : cells + mc ≤ R.cells ∧ slots + ms ≤ R.slots) :
    vx_Run p l e R s m args below meth c H locs cells slots mc ms g rest (Qc (Value.ref b :: As).toArray) XC free := by
  have hK : vx_Back l R p e below s args y 3 8 (PreOf R mc ms Pc) (PostOf Qc mc ms free) (vx_Post XC mc ms free) := vx_callBack cw.1 hM hp.1
  obtain ⟨⟨-, -, -, -, -, -, hcode, -, hy, hlen, hl⟩, hin, hse⟩ := cw
  obtain ⟨hx, hb, hml, ho, -⟩ := S
  obtain ⟨-, ⟨cellB, hcB, hoB, hclB⟩, hPc⟩ := hp
  intro T hT X
  rcases vx_callV X hx (C := C) (bytes := bytes) (maxL := maxL) (ret := ret) ho hl hin hse hcode hy hK (by rw [hT]; exact hcB) hoB hclB hg (hsize.trans hml.symm) (argsL := As) (rest := rest) (fun sig h => hn.trans (hlen sig h)) hstack hW (by rw [hb]; exact hdg)
    (fun vm₁ hW₁ => ⟨hf.1, hf.2, hPc (T.setVm vm₁) hT hW₁⟩) with ⟨v, vm₁, ⟨U', l2, c2, s2⟩, hW₁, X', ⟨g', mk, t, L, e1, e2, hq, h1, hL, h2, h3⟩, st⟩ | ⟨q, vm₁, ⟨U', l2, c2, s2⟩, hW₁, X', ⟨g', mk, t, L, E, ce, e1, e2, hq, hce, hcv, hcl, h1, hL, h2, h3⟩, st⟩
  · dsimp only [Pt.U, Pt.locs, Pt.cells, Pt.slots] at X' e1 e2 h1 h2 h3 st
    subst h1; subst h2; subst h3
    exact Or.inl ⟨v, (T.setVm vm₁).calling g' mk (Value.ref b :: As).toArray, t, U', L, hT, X', hL, e1, e2, hq, st⟩
  · dsimp only [Pt.U, Pt.locs, Pt.cells, Pt.slots] at X' e1 e2 h1 h2 h3 st hcl
    subst h1; subst h2; subst h3
    exact Or.inr ⟨q, (T.setVm vm₁).calling g' mk (Value.ref b :: As).toArray, t, U', L, E, ce, hT, X', hL, e1, e2, hq, hce, hcv, vx_cls hW₁ hcl, st⟩
theorem vx_runS (S : CallFix p m c cc nL s args Ts own) (hM : vx_Met l y ws rm Pc Qc XC mc ms free) (cw : CallB R s args own index y bytes maxL ret ws rm mc ms n ∧ (Cond.static y).before args s = true) (hp : PreS s H Pc As)
    (hg : g.method = m) (hn : As.length = n) (hsize : g.locals.size = nL) (hstack : g.stack = As.reverse ++ rest) (hW : 2 * g.monitorRoom + (rest.map fun v => v.category).sum ≤ 8) (hdg : decode cc g.pc = .ok (.invokestatic index, 3)) (hf : cells + mc ≤ R.cells ∧ slots + ms ≤ R.slots) :
    vx_Run p l e R s m args below meth c H locs cells slots mc ms g rest (Qc As.toArray) XC free := by
  have hK : vx_Back l R p e below s args y 3 8 (PreOf R mc ms Pc) (PostOf Qc mc ms free) (vx_Post XC mc ms free) := vx_callBack cw.1 hM hp.1
  obtain ⟨⟨-, -, -, -, -, -, hcode, hini, hy, hlen, hl⟩, hstt⟩ := cw
  obtain ⟨hx, hb, hml, ho, -⟩ := S
  intro T hT X
  rcases vx_callS X hx (bytes := bytes) (maxL := maxL) (ret := ret) ho hl hstt hini hcode hy hK hg (hsize.trans hml.symm) (argsL := As) (rest := rest) (fun sig h => hn.trans (hlen sig h)) hstack hW (by rw [hb]; exact hdg)
    (fun vm₁ hW₁ => ⟨hf.1, hf.2, hp.2 (T.setVm vm₁) hT hW₁⟩) with ⟨v, vm₁, ⟨U', l2, c2, s2⟩, hW₁, X', ⟨g', mk, t, L, e1, e2, hq, h1, hL, h2, h3⟩, st⟩ | ⟨q, vm₁, ⟨U', l2, c2, s2⟩, hW₁, X', ⟨g', mk, t, L, E, ce, e1, e2, hq, hce, hcv, hcl, h1, hL, h2, h3⟩, st⟩
  · dsimp only [Pt.U, Pt.locs, Pt.cells, Pt.slots] at X' e1 e2 h1 h2 h3 st
    subst h1; subst h2; subst h3
    exact Or.inl ⟨v, (T.setVm vm₁).calling g' mk As.toArray, t, U', L, hT, X', hL, e1, e2, hq, st⟩
  · dsimp only [Pt.U, Pt.locs, Pt.cells, Pt.slots] at X' e1 e2 h1 h2 h3 st hcl
    subst h1; subst h2; subst h3
    exact Or.inr ⟨q, (T.setVm vm₁).calling g' mk As.toArray, t, U', L, E, ce, hT, X', hL, e1, e2, hq, hce, hcv, vx_cls hW₁ hcl, st⟩
end Runs
section Rows
variable {p : Program} {l : Launch} {e : Env} {R : Room} {s : State} {m : MethodId} {args : Array Value} {below : List Frame} {meth : Method} {c : Code} {H : Heap} {locs : List Loc} {cells slots : Nat} {Q : State → Prop}
variable {mc ms : Nat} {free : Addr → Prop} {A0 A1 : Nat → Prop} {H0 : Heap} {a : Array Value} {pc : Nat} {ls : Array Slot} {st0 rest : List Value}
theorem vx_keep {st₀ t T' : State} {L : List Loc} (h0 : st₀.heap = H) (e1 : T'.heap = t.heap) (hS : va_S A0 H0 H locs) (hA : ∀ q, q < H.size → A1 q → A0 q) (hf : ∀ q, free q → A0 q) (hL : ∀ q ∈ L, free q.base) (hF : va_F A1 st₀ t) :
    H.size ≤ T'.heap.size ∧ (∀ q : Nat, q < H.size → ¬ A1 q → T'.heap[q]? = H[q]?) ∧ va_S A0 H0 T'.heap (locs ++ L) := by
  obtain ⟨hz, hk⟩ := hF
  rw [h0] at hz hk
  exact ⟨by rw [e1]; exact hz, fun q h1 h2 => by rw [e1]; exact hk q h1 h2,
    ⟨Nat.le_trans hS.1 (by rw [e1]; exact hz), fun q h1 h2 => by rw [e1, hk q (Nat.lt_of_lt_of_le h1 hS.1) (fun z => h2 (hA q (Nat.lt_of_lt_of_le h1 hS.1) z))]; exact hS.2.1 q h1 h2, fun q hq => by
      rcases List.mem_append.mp hq with h | h
      · exact hS.2.2 q h
      · exact hf _ (hL q h)⟩⟩
theorem vx_calli {S SX : Type} {post : Int32 → S → Prop} {px : SX → Prop} {B : S → State → Prop} {BX : String → SX → State → Prop} {AX : Nat → Prop} (hr : vx_Run p l e R s m args below meth c H locs cells slots mc ms (F0 m pc ls st0) rest (va_Qi post B A1 a) (vx_X px BX AX) free) (hS : va_S A0 H0 H locs) (hA : ∀ q, q < H.size → A1 q → A0 q) (hf : ∀ q, free q → A0 q) (hAX : ∀ q, q < H.size → AX q → A0 q)
    (kx : ∀ (E : String) (ce : Cell) (q9 : Addr) (u : SX) (t : State) (H1 : Heap) (locs1 : List Loc), t.heap = H1 → s.vm.Alike t.vm → px u → BX E u t → H.size ≤ H1.size → (∀ q : Nat, q < H.size → ¬ AX q → H1[q]? = H[q]?) → va_S A0 H0 H1 locs1 → H1[q9]? = some ce → ce.vm = .none → s.vm.findClass E = some ce.cls → vx_W p l e R s m args below meth c H1 locs1 (cells + mc) (slots + ms) Q (F0 m pc ls rest) q9)
    (kk : ∀ (r : Int32) (u : S) (t : State) (H1 : Heap) (locs1 : List Loc), t.heap = H1 → s.vm.Alike t.vm → post r u → B u t → H.size ≤ H1.size → (∀ q : Nat, q < H.size → ¬ A1 q → H1[q]? = H[q]?) → va_S A0 H0 H1 locs1 → W p l e R s m args below meth c H1 locs1 (cells + mc) (slots + ms) Q (F0 m (pc + 3) ls (.int r :: rest))) : W p l e R s m args below meth c H locs cells slots Q (F0 m pc ls st0) := by
  intro T hT X
  rcases hr T hT X with ⟨v, st₀, t, T', L, h0, X', hL, e1, e2, ⟨⟨r, u, hv, hp, hb⟩, hF⟩, st⟩ | ⟨q, st₀, t, T', L, E, ce, h0, X', hL, e1, e2, ⟨u, hp, hb, hF⟩, hce, hcv, hcl, st⟩
  · cases hv
    obtain ⟨k1, k2, k3⟩ := vx_keep h0 e1 hS hA hf hL hF
    obtain ⟨t2, a1, b1⟩ := kk r u t T'.heap (locs ++ L) e1.symm (by rw [← e2]; exact X'.warmed.alike) hp hb k1 k2 k3 T' rfl X'
    exact ⟨t2, st t2 a1, b1⟩
  · obtain ⟨k1, k2, k3⟩ := vx_keep h0 e1 hS hAX hf hL hF
    obtain ⟨t2, a1, b1⟩ := kx E ce q u t T'.heap (locs ++ L) e1.symm (by rw [← e2]; exact X'.warmed.alike) hp hb k1 k2 k3 (by rw [e1]; exact hce) hcv hcl T' rfl X'
    exact ⟨t2, st.trans a1, b1⟩
theorem vx_calll {S SX : Type} {post : Int64 → S → Prop} {px : SX → Prop} {B : S → State → Prop} {BX : String → SX → State → Prop} {AX : Nat → Prop} (hr : vx_Run p l e R s m args below meth c H locs cells slots mc ms (F0 m pc ls st0) rest (va_Ql post B A1 a) (vx_X px BX AX) free) (hS : va_S A0 H0 H locs) (hA : ∀ q, q < H.size → A1 q → A0 q) (hf : ∀ q, free q → A0 q) (hAX : ∀ q, q < H.size → AX q → A0 q)
    (kx : ∀ (E : String) (ce : Cell) (q9 : Addr) (u : SX) (t : State) (H1 : Heap) (locs1 : List Loc), t.heap = H1 → s.vm.Alike t.vm → px u → BX E u t → H.size ≤ H1.size → (∀ q : Nat, q < H.size → ¬ AX q → H1[q]? = H[q]?) → va_S A0 H0 H1 locs1 → H1[q9]? = some ce → ce.vm = .none → s.vm.findClass E = some ce.cls → vx_W p l e R s m args below meth c H1 locs1 (cells + mc) (slots + ms) Q (F0 m pc ls rest) q9)
    (kk : ∀ (r : Int64) (u : S) (t : State) (H1 : Heap) (locs1 : List Loc), t.heap = H1 → s.vm.Alike t.vm → post r u → B u t → H.size ≤ H1.size → (∀ q : Nat, q < H.size → ¬ A1 q → H1[q]? = H[q]?) → va_S A0 H0 H1 locs1 → W p l e R s m args below meth c H1 locs1 (cells + mc) (slots + ms) Q (F0 m (pc + 3) ls (.long r :: rest))) : W p l e R s m args below meth c H locs cells slots Q (F0 m pc ls st0) := by
  intro T hT X
  rcases hr T hT X with ⟨v, st₀, t, T', L, h0, X', hL, e1, e2, ⟨⟨r, u, hv, hp, hb⟩, hF⟩, st⟩ | ⟨q, st₀, t, T', L, E, ce, h0, X', hL, e1, e2, ⟨u, hp, hb, hF⟩, hce, hcv, hcl, st⟩
  · cases hv
    obtain ⟨k1, k2, k3⟩ := vx_keep h0 e1 hS hA hf hL hF
    obtain ⟨t2, a1, b1⟩ := kk r u t T'.heap (locs ++ L) e1.symm (by rw [← e2]; exact X'.warmed.alike) hp hb k1 k2 k3 T' rfl X'
    exact ⟨t2, st t2 a1, b1⟩
  · obtain ⟨k1, k2, k3⟩ := vx_keep h0 e1 hS hAX hf hL hF
    obtain ⟨t2, a1, b1⟩ := kx E ce q u t T'.heap (locs ++ L) e1.symm (by rw [← e2]; exact X'.warmed.alike) hp hb k1 k2 k3 (by rw [e1]; exact hce) hcv hcl T' rfl X'
    exact ⟨t2, st.trans a1, b1⟩
theorem vx_callf {S SX : Type} {post : UInt32 → S → Prop} {px : SX → Prop} {B : S → State → Prop} {BX : String → SX → State → Prop} {AX : Nat → Prop} (hr : vx_Run p l e R s m args below meth c H locs cells slots mc ms (F0 m pc ls st0) rest (va_Qf post B A1 a) (vx_X px BX AX) free) (hS : va_S A0 H0 H locs) (hA : ∀ q, q < H.size → A1 q → A0 q) (hf : ∀ q, free q → A0 q) (hAX : ∀ q, q < H.size → AX q → A0 q)
    (kx : ∀ (E : String) (ce : Cell) (q9 : Addr) (u : SX) (t : State) (H1 : Heap) (locs1 : List Loc), t.heap = H1 → s.vm.Alike t.vm → px u → BX E u t → H.size ≤ H1.size → (∀ q : Nat, q < H.size → ¬ AX q → H1[q]? = H[q]?) → va_S A0 H0 H1 locs1 → H1[q9]? = some ce → ce.vm = .none → s.vm.findClass E = some ce.cls → vx_W p l e R s m args below meth c H1 locs1 (cells + mc) (slots + ms) Q (F0 m pc ls rest) q9)
    (kk : ∀ (r : UInt32) (u : S) (t : State) (H1 : Heap) (locs1 : List Loc), t.heap = H1 → s.vm.Alike t.vm → post r u → B u t → H.size ≤ H1.size → (∀ q : Nat, q < H.size → ¬ A1 q → H1[q]? = H[q]?) → va_S A0 H0 H1 locs1 → W p l e R s m args below meth c H1 locs1 (cells + mc) (slots + ms) Q (F0 m (pc + 3) ls (.float r :: rest))) : W p l e R s m args below meth c H locs cells slots Q (F0 m pc ls st0) := by
  intro T hT X
  rcases hr T hT X with ⟨v, st₀, t, T', L, h0, X', hL, e1, e2, ⟨⟨r, u, hv, hp, hb⟩, hF⟩, st⟩ | ⟨q, st₀, t, T', L, E, ce, h0, X', hL, e1, e2, ⟨u, hp, hb, hF⟩, hce, hcv, hcl, st⟩
  · cases hv
    obtain ⟨k1, k2, k3⟩ := vx_keep h0 e1 hS hA hf hL hF
    obtain ⟨t2, a1, b1⟩ := kk r u t T'.heap (locs ++ L) e1.symm (by rw [← e2]; exact X'.warmed.alike) hp hb k1 k2 k3 T' rfl X'
    exact ⟨t2, st t2 a1, b1⟩
  · obtain ⟨k1, k2, k3⟩ := vx_keep h0 e1 hS hAX hf hL hF
    obtain ⟨t2, a1, b1⟩ := kx E ce q u t T'.heap (locs ++ L) e1.symm (by rw [← e2]; exact X'.warmed.alike) hp hb k1 k2 k3 (by rw [e1]; exact hce) hcv hcl T' rfl X'
    exact ⟨t2, st.trans a1, b1⟩
theorem vx_calld {S SX : Type} {post : UInt64 → S → Prop} {px : SX → Prop} {B : S → State → Prop} {BX : String → SX → State → Prop} {AX : Nat → Prop} (hr : vx_Run p l e R s m args below meth c H locs cells slots mc ms (F0 m pc ls st0) rest (va_Qd post B A1 a) (vx_X px BX AX) free) (hS : va_S A0 H0 H locs) (hA : ∀ q, q < H.size → A1 q → A0 q) (hf : ∀ q, free q → A0 q) (hAX : ∀ q, q < H.size → AX q → A0 q)
    (kx : ∀ (E : String) (ce : Cell) (q9 : Addr) (u : SX) (t : State) (H1 : Heap) (locs1 : List Loc), t.heap = H1 → s.vm.Alike t.vm → px u → BX E u t → H.size ≤ H1.size → (∀ q : Nat, q < H.size → ¬ AX q → H1[q]? = H[q]?) → va_S A0 H0 H1 locs1 → H1[q9]? = some ce → ce.vm = .none → s.vm.findClass E = some ce.cls → vx_W p l e R s m args below meth c H1 locs1 (cells + mc) (slots + ms) Q (F0 m pc ls rest) q9)
    (kk : ∀ (r : UInt64) (u : S) (t : State) (H1 : Heap) (locs1 : List Loc), t.heap = H1 → s.vm.Alike t.vm → post r u → B u t → H.size ≤ H1.size → (∀ q : Nat, q < H.size → ¬ A1 q → H1[q]? = H[q]?) → va_S A0 H0 H1 locs1 → W p l e R s m args below meth c H1 locs1 (cells + mc) (slots + ms) Q (F0 m (pc + 3) ls (.double r :: rest))) : W p l e R s m args below meth c H locs cells slots Q (F0 m pc ls st0) := by
  intro T hT X
  rcases hr T hT X with ⟨v, st₀, t, T', L, h0, X', hL, e1, e2, ⟨⟨r, u, hv, hp, hb⟩, hF⟩, st⟩ | ⟨q, st₀, t, T', L, E, ce, h0, X', hL, e1, e2, ⟨u, hp, hb, hF⟩, hce, hcv, hcl, st⟩
  · cases hv
    obtain ⟨k1, k2, k3⟩ := vx_keep h0 e1 hS hA hf hL hF
    obtain ⟨t2, a1, b1⟩ := kk r u t T'.heap (locs ++ L) e1.symm (by rw [← e2]; exact X'.warmed.alike) hp hb k1 k2 k3 T' rfl X'
    exact ⟨t2, st t2 a1, b1⟩
  · obtain ⟨k1, k2, k3⟩ := vx_keep h0 e1 hS hAX hf hL hF
    obtain ⟨t2, a1, b1⟩ := kx E ce q u t T'.heap (locs ++ L) e1.symm (by rw [← e2]; exact X'.warmed.alike) hp hb k1 k2 k3 (by rw [e1]; exact hce) hcv hcl T' rfl X'
    exact ⟨t2, st.trans a1, b1⟩
theorem vx_callv {S SX : Type} {post : S → Prop} {px : SX → Prop} {B : S → State → Prop} {BX : String → SX → State → Prop} {AX : Nat → Prop} (hr : vx_Run p l e R s m args below meth c H locs cells slots mc ms (F0 m pc ls st0) rest (va_Qv post B A1 a) (vx_X px BX AX) free) (hS : va_S A0 H0 H locs) (hA : ∀ q, q < H.size → A1 q → A0 q) (hf : ∀ q, free q → A0 q) (hAX : ∀ q, q < H.size → AX q → A0 q)
    (kx : ∀ (E : String) (ce : Cell) (q9 : Addr) (u : SX) (t : State) (H1 : Heap) (locs1 : List Loc), t.heap = H1 → s.vm.Alike t.vm → px u → BX E u t → H.size ≤ H1.size → (∀ q : Nat, q < H.size → ¬ AX q → H1[q]? = H[q]?) → va_S A0 H0 H1 locs1 → H1[q9]? = some ce → ce.vm = .none → s.vm.findClass E = some ce.cls → vx_W p l e R s m args below meth c H1 locs1 (cells + mc) (slots + ms) Q (F0 m pc ls rest) q9)
    (kk : ∀ (u : S) (t : State) (H1 : Heap) (locs1 : List Loc), t.heap = H1 → s.vm.Alike t.vm → post u → B u t → H.size ≤ H1.size → (∀ q : Nat, q < H.size → ¬ A1 q → H1[q]? = H[q]?) → va_S A0 H0 H1 locs1 → W p l e R s m args below meth c H1 locs1 (cells + mc) (slots + ms) Q (F0 m (pc + 3) ls (rest))) : W p l e R s m args below meth c H locs cells slots Q (F0 m pc ls st0) := by
  intro T hT X
  rcases hr T hT X with ⟨v, st₀, t, T', L, h0, X', hL, e1, e2, ⟨⟨u, hv, hp, hb⟩, hF⟩, st⟩ | ⟨q, st₀, t, T', L, E, ce, h0, X', hL, e1, e2, ⟨u, hp, hb, hF⟩, hce, hcv, hcl, st⟩
  · cases hv
    obtain ⟨k1, k2, k3⟩ := vx_keep h0 e1 hS hA hf hL hF
    obtain ⟨t2, a1, b1⟩ := kk u t T'.heap (locs ++ L) e1.symm (by rw [← e2]; exact X'.warmed.alike) hp hb k1 k2 k3 T' rfl X'
    exact ⟨t2, st t2 a1, b1⟩
  · obtain ⟨k1, k2, k3⟩ := vx_keep h0 e1 hS hAX hf hL hF
    obtain ⟨t2, a1, b1⟩ := kx E ce q u t T'.heap (locs ++ L) e1.symm (by rw [← e2]; exact X'.warmed.alike) hp hb k1 k2 k3 (by rw [e1]; exact hce) hcv hcl T' rfl X'
    exact ⟨t2, st.trans a1, b1⟩
/-- caught by the row x of this method's table; the rows ahead don't take it -/
theorem vx_catch {own name : String} {E : String} {ce : Cell} {q : Addr} (hown : s.vm.findClass own = some m.cls) (pre : List ExceptionTableEntry) (x : ExceptionTableEntry) (suf : List ExceptionTableEntry) (hsplit : c.exceptionTable.toList = pre ++ x :: suf)
    (hpass : ∀ z ∈ pre, covers z pc = false ∨ (z.catchType ≠ 0 ∧ ∃ nm : String, (Cond.classLink own z.catchType nm).before args s = true ∧ va_Nc E nm s)) (hx : covers x pc = true) (h0 : x.catchType ≠ 0)
    (hlink : (Cond.classLink own x.catchType name).before args s = true) (hcast : (Cond.castable E name).before args s = true) (hcell : H[q]? = some ce) (hv : ce.vm = .none) (hcl : s.vm.findClass E = some ce.cls)
    (kk : W p l e R s m args below meth c H locs cells slots Q (F0 m x.handlerPc ls [.ref q])) : vx_W p l e R s m args below meth c H locs cells slots Q (F0 m pc ls rest) q := by
  intro T hT X
  have hpl : e.platform.magicAccessors = ({} : Platform).magicAccessors := by rw [X.admits.platform]
  obtain ⟨c3, c4, hc3, hc4, hasg⟩ := Cond.castable_spec hcast
  cases Option.some.inj (hc3.symm.trans hcl)
  obtain ⟨c5, hc5, hcl5⟩ := Cond.classLink_spec hown hlink e.platform hpl
  cases Option.some.inj (hc4.symm.trans hc5)
  obtain ⟨vm', X', st⟩ := X.thenCaughtThrough q (g := F0 m pc ls rest) rfl (Steps.refl _) (by rw [hT]; exact hcell) (by rw [hv]; rfl) (by obtain ⟨k9, h9, -⟩ := Vm.findClass_spec hcl; exact ⟨k9, h9⟩) pre x suf hsplit
    (fun z hz => by
      rcases hpass z hz with h | ⟨hz0, nm, hl1, hn1⟩
      · exact Or.inl h
      · obtain ⟨c6, hc6, hcl6⟩ := Cond.classLink_spec hown hl1 e.platform hpl
        obtain ⟨a8, b8, h1, h2, h3⟩ := hn1
        cases Option.some.inj (h1.symm.trans hcl)
        cases Option.some.inj (h2.symm.trans hc6)
        exact Or.inr ⟨hz0, _, hcl6, h3⟩) hx (Or.inr ⟨h0, c4, hcl5, hasg⟩)
  obtain ⟨t, a1, b1⟩ := kk (T.setVm vm') hT X'
  exact ⟨t, st.trans a1, b1⟩
end Rows
section Ends
variable {p : Program} {l : Launch} {e : Env} {R : Room} {s : State} {m : MethodId} {args : Array Value} {below : List Frame} {meth : Method} {c : Code} {H : Heap} {locs : List Loc} {cells slots : Nat} {Q : State → Prop}
variable {mc ms : Nat} {free : Addr → Prop} {A0 A1 : Nat → Prop} {H0 : Heap} {a : Array Value} {ls : Array Slot} {st0 rest : List Value}
variable {Qc : Array Value → State → Outcome → State → Prop} {XC : String → State → State → Prop}
/-- what a body that may throw owes at its end -/
def vx_MQ (below : List Frame) (Qc : Array Value → State → Outcome → State → Prop) (XC : String → State → State → Prop) (a : Array Value) (s : State) (mc ms : Nat) (free : Addr → Prop) : State → Prop := fun t =>
  ∃ o, t.status = .running ∧ Ended t below o ∧ vx_Q Qc XC mc ms free a s o t
theorem vx_ret {g : JFrame} {mc ms : Nat} (k : W p l e R s m args below meth c H locs cells slots (MQ below Qc args s mc ms free) g) : W p l e R s m args below meth c H locs cells slots (vx_MQ below Qc XC args s mc ms free) g := by
  intro T hT X
  obtain ⟨t, a1, o, b1, b2, b3, b4⟩ := k T hT X
  exact ⟨t, a1, o, b1, b2, Or.inl ⟨b3, b4⟩⟩
/-- not caught here: it goes on to the caller -/
theorem vx_widen {g : JFrame} {q : Addr} {k n : Nat} (h1 : cells ≤ k) (h2 : slots ≤ n) (kk : vx_W p l e R s m args below meth c H locs k n Q g q) : vx_W p l e R s m args below meth c H locs cells slots Q g q := fun T hT X => kk T hT (stand_widen X h1 h2)
theorem vx_out {pc : Nat} {E : String} {ce : Cell} {q : Addr} {mc ms : Nat} (hout : ∀ x ∈ c.exceptionTable.toList, covers x pc = false) (hlocks : meth.locks = false) (hcell : H[q]? = some ce) (hv : ce.vm = .none) (hcl : s.vm.findClass E = some ce.cls)
    (hx : ∀ t : State, t.heap = H → s.vm.Alike t.vm → XC E s t) (hf : ∀ z ∈ locs, free z.base) (hc : cells ≤ mc) (hs : slots ≤ ms) :
    vx_W p l e R s m args below meth c H locs cells slots (vx_MQ below Qc XC args s mc ms free) (F0 m pc ls rest) q := by
  intro T hT X
  obtain ⟨st1, hrun, hend, hW, hsm⟩ := X.leaveThrown q (g := F0 m pc ls rest) rfl rfl rfl hout hlocks
  have hcell9 : (T.setFrames (.throwing q :: below)).heap[q]? = some ce := by
    show T.heap[q]? = some ce
    rw [hT]; exact hcell
  exact ⟨_, st1, .threw q, hrun, hend, Or.inr ⟨q, rfl, E, ce, locs, hx _ hT hW.alike, hcell9, hv, hcl, hW, hsm.mono hc hs, hf⟩⟩
theorem vx_frame {U : State} {k n : Nat} (h : s.sameButNew ({ U with vm := s.vm } : State) locs k n) : s.heap.size ≤ U.heap.size ∧ ∀ q : Nat, q < s.heap.size → (∀ z ∈ locs, z.base ≠ q) → U.heap[q]? = s.heap[q]? := by
  obtain ⟨-, h2, -, -, -, h6⟩ := h
  refine ⟨h2, fun q hq hz => ?_⟩
  obtain ⟨c9, e1, e2, e3, e4⟩ := h6 q _ (Array.getElem?_eq_getElem hq)
  have hs : c9.slots = (s.heap[q]).slots := Array.ext_getElem? fun i => e4 i fun hm => hz _ hm rfl
  have h9 : c9 = s.heap[q] := by
    rw [hs] at e2
    exact e2
  have e5 : U.heap[q]? = some c9 := e1
  rw [e5, h9, Array.getElem?_eq_getElem hq]
/-- the words of a throw but the four that speak of the heap -/
def vx_no (w : Cond) : Bool := decide (w ≠ .isRef (.static Bundle.tN "UNASSIGNED_STACK" Bundle.steD)) && decide (w ≠ .isRef (.static Bundle.tN "SUPPRESSED_SENTINEL" Bundle.listD)) && decide (w ≠ .laysStatic Bundle.tN "UNASSIGNED_STACK" Bundle.steD) && decide (w ≠ .laysStatic Bundle.tN "SUPPRESSED_SENTINEL" Bundle.listD)
def vx_at0 (own : String) (ic : Nat) (X : String) (names : List String) : List Cond := (Bundle.ownAtoms0 own ic X names).filter vx_no
def vx_atS (own : String) (ic : Nat) (X : String) (names : List String) : List Cond := (Bundle.ownAtoms own ic X names).filter vx_no
/-- a word that the tables alone decide, or a good one -/
def vx_ot (w : Cond) : Bool := w.onTables || goodWord w
theorem vx_ot_at {args a' : Array Value} {s U : State} {w : Cond} (hW : s.WarmedH U.vm) (hvm : s.vm = U.vm) (hg : vx_ot w = true) (h : w.before args s = true) : w.before a' U = true := by
  simp only [vx_ot, Bool.or_eq_true] at hg
  rcases hg with hg | hg
  · exact va_tabs hg hvm h
  · exact word_at hW (good_of_word hg) h
/-- a list's words: the good ones out of the method's own list, the others by premises of their own -/
theorem vx_hat {args : Array Value} {s : State} {L B : List Cond} (h1 : ∀ w ∈ L.filter goodWord, w.before args s = true) (h2 : ∀ w ∈ L.filter (fun w => !goodWord w), w ∈ B) (h3 : ∀ w ∈ B, w.before args s = true) : ∀ w ∈ L, w.before args s = true := by
  intro w hw
  by_cases g : goodWord w = true
  · exact h1 w (List.mem_filter.mpr ⟨hw, g⟩)
  · refine h3 w (h2 w (List.mem_filter.mpr ⟨hw, ?_⟩))
    show (!goodWord w) = true
    cases hgw : goodWord w
    · rfl
    · exact absurd hgw g
theorem vx_c {args : Array Value} {s : State} {w : Cond} {B : List Cond} (h : w.before args s = true) (t : ∀ w ∈ B, w.before args s = true) : ∀ w' ∈ w :: B, w'.before args s = true := fun w' h' => (List.mem_cons.mp h').elim (fun e => by rw [e]; exact h) (t w')
theorem vx_n {args : Array Value} {s : State} : ∀ w ∈ ([] : List Cond), w.before args s = true := fun _ h => nomatch h
theorem vx_own {args : Array Value} {s : State} {L : List Cond} (h1 : ∀ w ∈ L.filter vx_no, w.before args s = true)
    (hU : (Cond.isRef (.static Bundle.tN "UNASSIGNED_STACK" Bundle.steD)).before args s = true) (hN : (Cond.isRef (.static Bundle.tN "SUPPRESSED_SENTINEL" Bundle.listD)).before args s = true)
    (lU : (Cond.laysStatic Bundle.tN "UNASSIGNED_STACK" Bundle.steD).before args s = true) (lN : (Cond.laysStatic Bundle.tN "SUPPRESSED_SENTINEL" Bundle.listD).before args s = true) : ∀ w ∈ L, w.before args s = true := by
  intro w hw
  by_cases e1 : w = .isRef (.static Bundle.tN "UNASSIGNED_STACK" Bundle.steD)
  · rw [e1]; exact hU
  · by_cases e2 : w = .isRef (.static Bundle.tN "SUPPRESSED_SENTINEL" Bundle.listD)
    · rw [e2]; exact hN
    · by_cases e3 : w = .laysStatic Bundle.tN "UNASSIGNED_STACK" Bundle.steD
      · rw [e3]; exact lU
      · by_cases e4 : w = .laysStatic Bundle.tN "SUPPRESSED_SENTINEL" Bundle.listD
        · rw [e4]; exact lN
        · exact h1 w (List.mem_filter.mpr ⟨hw, by unfold vx_no; rw [decide_eq_true e1, decide_eq_true e2, decide_eq_true e3, decide_eq_true e4]; rfl⟩)
/-- where a static field lies, its class's statics cell in H -/
def vx_L (C n d : String) (A : Nat → Prop) (U : State) (H : Heap) : Prop := ∃ (c : ClassId) (k : Class) (i : Nat) (f : Field) (a : Nat) (cell : Cell), U.vm.findClass C = some c ∧ U.fieldFound? C n d = some (c, k, i, f) ∧ f.isStatic = true ∧ k.statics = some a ∧ H[a]? = some cell ∧ cell.vm.isStatics = true ∧ cell.cls = c ∧ f.slot < cell.slots.size ∧ k.staticTypes[f.slot]? = some f.type ∧ ¬ A a
theorem vx_L.moved {C n d : String} {A : Nat → Prop} {u U : State} {H : Heap} (hvm : u.vm.Alike U.vm) (h : vx_L C n d A u H) : vx_L C n d A U H := by
  obtain ⟨c, k, i, f, a, cell, h1, h2, h3, h4, h5, h6, h7, h8, h9, h10⟩ := h
  obtain ⟨k', hi', he⟩ := State.fieldFound?_setVm hvm h2
  exact ⟨c, k', i, f, a, cell, by rw [hvm.findClass]; exact h1, hi', h3, by rw [he]; exact h4, h5, h6, h7, h8, by rw [he]; exact h9, h10⟩
theorem vx_L.kept {C n d : String} {A : Nat → Prop} {U : State} {H H1 : Heap} (h : vx_L C n d A U H) (hq : ∀ a : Nat, a < H.size → ¬ A a → H1[a]? = H[a]?) : vx_L C n d A U H1 := by
  obtain ⟨c, k, i, f, a, cell, h1, h2, h3, h4, h5, h6, h7, h8, h9, h10⟩ := h
  exact ⟨c, k, i, f, a, cell, h1, h2, h3, h4, by rw [hq a (Array.getElem?_eq_some_iff.mp h5).1 h10]; exact h5, h6, h7, h8, h9, h10⟩
theorem vx_L.narrow {C n d : String} {A B : Nat → Prop} {U : State} {H : Heap} (h : vx_L C n d A U H) (hAB : ∀ q, B q → A q) : vx_L C n d B U H := by
  obtain ⟨c, k, i, f, a, cell, h1, h2, h3, h4, h5, h6, h7, h8, h9, h10⟩ := h
  exact ⟨c, k, i, f, a, cell, h1, h2, h3, h4, h5, h6, h7, h8, h9, fun z => h10 (hAB _ z)⟩
theorem vx_L.word {C n d : String} {A : Nat → Prop} {s : State} {args : Array Value} (h : vx_L C n d A s s.heap) : (Cond.laysStatic C n d).before args s = true := by
  obtain ⟨c, k, i, f, a, cell, h1, h2, h3, h4, h5, h6, h7, h8, h9, -⟩ := h
  show (Cond.laysStatic C n d).holds args s none s [] = true
  exact Cond.laysStatic_of h1 h2 h3 h4 h5 h6 h7 h8 h9
/-- .. and what it holds: null or some reference -/
def vx_Zq (C n d : String) (A : Nat → Prop) (U : State) (H : Heap) : Prop := va_Zq C n d A U H ∧ vx_L C n d A U H
theorem vx_Zq.moved {C n d : String} {A : Nat → Prop} {u U : State} {H : Heap} (hvm : u.vm.Alike U.vm) (h : vx_Zq C n d A u H) : vx_Zq C n d A U H := ⟨va_Zq.moved hvm h.1, vx_L.moved hvm h.2⟩
theorem vx_Zq.kept {C n d : String} {A : Nat → Prop} {U : State} {H H1 : Heap} (h : vx_Zq C n d A U H) (hq : ∀ a : Nat, a < H.size → ¬ A a → H1[a]? = H[a]?) : vx_Zq C n d A U H1 := ⟨va_Zq.kept h.1 hq, vx_L.kept h.2 hq⟩
theorem vx_Zq.narrow {C n d : String} {A B : Nat → Prop} {U : State} {H : Heap} (h : vx_Zq C n d A U H) (hAB : ∀ q, B q → A q) : vx_Zq C n d B U H := ⟨va_Zq.narrow h.1 hAB, vx_L.narrow h.2 hAB⟩
theorem vx_Zqof {args : Array Value} {s : State} {C n d : String} {A : Nat → Prop} (hl : (Cond.laysStatic C n d).before args s = true) (hini : (Cond.initialized C).before args s = true) (h : (Cond.isRef (.static C n d)).before args s = true) (hA : ∀ a : Nat, a < s.heap.size → ¬ A a) : vx_Zq C n d A s s.heap := by
  refine ⟨va_Zqof hl hini h hA, ?_⟩
  obtain ⟨c, k, i, f, a, cell, h1, h2, h3, h4, h5, h6, h7, h8, h9⟩ := Cond.laysStatic_spec hl
  exact ⟨c, k, i, f, a, cell, h1, h2, h3, h4, h5, h6, h7, h8, h9, hA a (Array.getElem?_eq_some_iff.mp h5).1⟩
theorem vx_isRef {C n d : String} {v : Value} {A : Nat → Prop} {s : State} {args : Array Value} (h : va_Z C n d v A s s.heap) (hv : v.isRef = true) : (Cond.isRef (.static C n d)).before args s = true := by
  obtain ⟨cf, kf, fi, f, a, cell, h1, h2, h3, h4, h5, h6, h7, -⟩ := h
  have he : (Term.static C n d).eval args s none [] s = some v := by
    simp [Term.eval, State.fieldNamed?, h1, h2, h4, h5, h6, h7]
  simp only [Cond.before, Cond.holds, Cond.value, he]
  cases v <;> simp_all [Value.isRef]
theorem vx_isRefq {C n d : String} {A : Nat → Prop} {s : State} {args : Array Value} (h : va_Zq C n d A s s.heap) : (Cond.isRef (.static C n d)).before args s = true := by
  rcases h with h | ⟨t, h⟩
  · exact vx_isRef h rfl
  · exact vx_isRef h rfl
/-- the same frame, seen from here: as if the method were called anew in this heap -/
theorem vx_rebase {T : State} (X : Stand p l e R s m args below meth c T locs cells slots) {R' : Room} (hf : R'.frames ≤ R.frames) (hl : R'.locals ≤ R.locals) (hc : cells + R'.cells ≤ R.cells) (hs : slots + R'.slots ≤ R.slots) :
    Stand p l e R' ((T.setVm s.vm).setFrames (.invoking m args :: below)) m args below meth c T [] 0 0 := by
  have htop : (T.setVm s.vm).topJava?.isSome := X.here.top
  have hF : ((T.setVm s.vm).setFrames (.invoking m args :: below)).frames = .invoking m args :: below := State.frames_setFrames _ (State.cur_lt_of_top htop)
  obtain ⟨g₀, hg0⟩ := Option.isSome_iff_exists.mp htop
  obtain ⟨r, hr⟩ := State.topJava?_eq_some.mp hg0
  have hl9 : e.platform.stackLimits (T.setVm s.vm).me = e.platform.stackLimits s.me := X.limits
  have hb9 : (T.setVm s.vm).me.stackBytes = s.me.stackBytes := X.bytes
  refine ⟨X.admits, X.cas, X.clock, hF, ?_, X.hears, X.method, X.code, X.here, X.tail, X.warmed, ?_, ?_, ?_⟩
  · have h := X.room
    have hU : ((T.setVm s.vm).setFrames (.invoking m args :: below)).localsInUse = s.localsInUse := by
      rw [State.localsInUse_invoking hF (meth := meth) (c := c) X.method X.code, State.localsInUse_invoking X.frames X.method X.code]
    simp only [State.hasRoom, Bool.and_eq_true, decide_eq_true_eq] at h ⊢
    obtain ⟨⟨⟨⟨h1, h2, h3, h4, h5, h6⟩, h7⟩, h8⟩, h9⟩ := h
    rw [X.frames, List.length_cons] at h2 h3
    have q1 := X.heapSize
    have q2 := X.used
    simp only [hF, hU, List.length_cons, State.stackLimits_setFrames, State.stackBytes_setFrames, hl9, hb9]
    refine ⟨⟨⟨⟨by omega, by omega, by omega, by omega, by omega, h6⟩, ?_⟩, ?_⟩, X.book⟩
    · show T.heap.size + R'.cells ≤ e.platform.maxCells
      omega
    · show T.slotsUsed + R'.slots ≤ e.platform.maxSlots
      omega
  · rw [State.stackLimits_setFrames]; rfl
  · rw [State.stackBytes_setFrames]; rfl
  · refine ⟨?_, Nat.le_refl _, Nat.le_refl _, ?_, ?_, fun a c9 h9 => ⟨c9, h9, rfl, rfl, fun _ _ => rfl⟩⟩
    · obtain ⟨t, ht, -⟩ := State.frames_cons hr
      show T.setVm s.vm = { ((T.setVm s.vm).setFrames (.invoking m args :: below)).setFrames (T.setVm s.vm).frames with heap := T.heap, slotsUsed := T.slotsUsed }
      rw [State.setFrames_setFrames, State.setFrames_self ht]
      rfl
    · show T.slotsUsed = T.slotsUsed + ((T.heap.toList.drop T.heap.size).map (·.slots.size)).sum
      rw [List.drop_eq_nil_of_le (Nat.le_of_eq Array.length_toList)]
      rfl
    · show ((T.heap.toList.drop T.heap.size).map (·.slots.size)).sum ≤ 0
      rw [List.drop_eq_nil_of_le (Nat.le_of_eq Array.length_toList)]
      exact Nat.le_refl _
/-- 'throw new E()': new; dup; invokespecial; athrow -/
theorem vx_throw0 {cc : ByteArray} {pc : Nat} (hexec : p.tables.exec = Jvm.exec) (hb : c.code = cc) (hl : l.stackTraces = false) {own cls : String} {names : List String} {ik ic mc ms : Nat} {A : Nat → Prop}
    (hown : s.vm.findClass own = some m.cls) (hcls : Bundle.fit cls = true) (hnames : ∀ n ∈ names, Bundle.fit n = true)
    (hk : (Cond.classLink own ik cls).before args s = true) (hini : (Cond.initialized cls).before args s = true) (hat : ∀ w ∈ vx_at0 own ic cls names, w.before args s = true)
    (hgood : ∀ w ∈ Cond.classLink own ik cls :: Cond.initialized cls :: vx_at0 own ic cls names, vx_ot w = true)
    (hU : vx_Zq Bundle.tN "UNASSIGNED_STACK" Bundle.steD A s s.heap) (hN : vx_Zq Bundle.tN "SUPPRESSED_SENTINEL" Bundle.listD A s s.heap) (hS : va_S A s.heap H locs) (hsize : ls.size = c.maxLocals)
    (d0 : decode cc pc = .ok (.new ik, 3)) (d3 : decode cc (pc + 3) = .ok (.dup, 1)) (d4 : decode cc (pc + 4) = .ok (.invokespecial ic, 3)) (d7 : decode cc (pc + 7) = .ok (.athrow, 1))
    (hout : ∀ x ∈ c.exceptionTable.toList, covers x (pc + 7) = false)
    (hRframes : names.length + 3 < R.frames) (hRlocals : (rest.map fun v => v.category).sum + (13 * (names.length + 1) + 42) ≤ R.locals) (hRcells : cells + 1 ≤ R.cells) (hRslots : slots + 6 ≤ R.slots) (hlocks : meth.locks = false)
    (hx : ∀ t : State, s.vm.Alike t.vm → H.size ≤ t.heap.size → (∀ q : Nat, q < H.size → t.heap[q]? = H[q]?) → XC cls s t)
    (hf : ∀ z ∈ locs, free z.base) (hc : cells + 1 ≤ mc) (hs : slots + 6 ≤ ms) :
    W p l e R s m args below meth c H locs cells slots (vx_MQ below Qc XC args s mc ms free) (F0 m pc ls rest) := by
  intro T hT X
  have htr : e.platform.stackTraces = false := (show e.platform.stackTraces = l.stackTraces by rw [X.admits.platform]).trans hl
  have Y := vx_rebase X (R' := { frames := R.frames, locals := R.locals, cells := 1, slots := 6 }) (Nat.le_refl _) (Nat.le_refl _) hRcells hRslots
  obtain ⟨s', hA⟩ : ∃ z, z = (T.setVm s.vm).setFrames (.invoking m args :: below) := ⟨_, rfl⟩
  rw [← hA] at Y
  have hvm : s'.vm = s.vm := by rw [hA]; rfl
  have hhp : s'.heap = H := by rw [hA]; exact hT
  have hW0 : s.WarmedH s'.vm := by rw [hvm]; exact State.WarmedH.refl s
  have hat' : ∀ w ∈ vx_at0 own ic cls names, w.before args s' = true := fun w hw => vx_ot_at hW0 hvm.symm (hgood w (List.mem_cons_of_mem _ (List.mem_cons_of_mem _ hw))) (hat w hw)
  have hk' : (Cond.classLink own ik cls).before args s' = true := vx_ot_at hW0 hvm.symm (hgood _ List.mem_cons_self) hk
  have hini' : (Cond.initialized cls).before args s' = true := vx_ot_at hW0 hvm.symm (hgood _ (List.mem_cons_of_mem _ List.mem_cons_self)) hini
  have hU' : vx_Zq Bundle.tN "UNASSIGNED_STACK" Bundle.steD A s' s'.heap := by rw [hhp]; exact vx_Zq.moved hW0.alike (hU.kept hS.2.1)
  have hN' : vx_Zq Bundle.tN "SUPPRESSED_SENTINEL" Bundle.listD A s' s'.heap := by rw [hhp]; exact vx_Zq.moved hW0.alike (hN.kept hS.2.1)
  have h : ∀ w ∈ Bundle.ownAtoms0 own ic cls names, w.before args s' = true := vx_own hat' (vx_isRefq hU'.1) (vx_isRefq hN'.1) hU'.2.word hN'.2.word
  have hown' : s'.vm.findClass own = some m.cls := by rw [hvm]; exact hown
  have hins : (Cond.instantiable cls 6).before args s' = true := h _ (by simp [Bundle.ownAtoms0])
  obtain ⟨vm₁, cX, kX, hfX, hkX, -, -, X₁, st1⟩ := Y.newCold hexec (own := own) (C := cls) (index := ik) (n := 6) hown' hk' hins hini'
    (g := F0 m pc ls rest) rfl (by rw [hb]; exact d0) (Nat.le_refl _) (Nat.le_refl _)
  generalize hT1 : (T.setVm vm₁).pushCell { cls := cX, slots := kX.instanceTypes.map defaultValue, vm := .none } = T1 at X₁ st1
  have hcat : (Value.ref T.heap.size).category = 1 := rfl
  have hcellA : T1.heap[T.heap.size]? = some (freshCell cX kX) := by rw [← hT1]; exact State.heap_pushCell_size _ _
  have d3' : decode c.code (pc + 3) = .ok (.dup, 1) := by rw [hb]; exact d3
  obtain ⟨U, hsteps, hrun, hend, hW, hsame, ce, hce, hO⟩ := X₁.ctorThrow0 hexec htr (own := own) (cls := cls) (names := names) (ic := ic) hown' hcls hnames h (fun x hx => nomatch hx) hfX hkX hcellA (by rw [hhp, hT]; exact Nat.le_refl _)
    (g := { method := m, pc := pc + 4, locals := ls, stack := .ref T.heap.size :: .ref T.heap.size :: rest, locked := none }) rfl hsize rfl rfl (rest := rest) rfl
    (by rw [hb]; exact d4) (by rw [hb]; exact d7) hout hRframes (by simp only [List.map_cons, List.sum_cons, hcat]; omega) hlocks
  obtain ⟨f1, f2⟩ := vx_frame hsame
  rw [hhp] at f1 f2
  have hWs : s.WarmedH U.vm := State.WarmedH.trans hW0 hW
  have hcl : s.vm.findClass cls = some ce.cls := by
    have h9 := hO.cls
    rw [hvm] at h9
    exact h9
  have hall : s.sameButNew ({ U with vm := s.vm } : State) locs mc ms := by
    subst hA
    obtain ⟨e1, e2⟩ := hsame
    rw [State.setFrames_setFrames] at e1
    have h2 : (T.setVm s.vm).sameButNew ({ U with vm := s.vm } : State) [] (0 + 1) (0 + 6) := ⟨e1, e2⟩
    have h3 := X.same.trans h2
    rw [List.append_nil] at h3
    exact h3.mono hc hs
  refine ⟨U, ?_, .threw T.heap.size, hrun, hend, Or.inr ⟨T.heap.size, rfl, cls, ce, locs, hx U hWs.alike f1 (fun q hq => f2 q hq (fun z hz => nomatch hz)), hce, hO.vm, hcl, hWs, hall, hf⟩⟩
  refine st1 _ ?_
  show Steps p.tables e below (T1.setTop { method := m, pc := pc + 3, locals := ls, stack := .ref T.heap.size :: rest, locked := none }) _
  jvm_step X₁.here [X₁.here.top, hexec, d3', Value.category]
  exact hsteps
/-- 'throw new E("text")': new; dup; ldc; invokespecial; athrow -/
theorem vx_throwS {cc : ByteArray} {pc : Nat} (hexec : p.tables.exec = Jvm.exec) (hb : c.code = cc) (hl : l.stackTraces = false) {own cls text : String} {names : List String} {ik is ic mc ms sa : Nat} {A : Nat → Prop}
    (hown : s.vm.findClass own = some m.cls) (hcls : Bundle.fit cls = true) (hnames : ∀ n ∈ names, Bundle.fit n = true)
    (hk : (Cond.classLink own ik cls).before args s = true) (hini : (Cond.initialized cls).before args s = true) (hstr : vk_R own is text sa s) (hat : ∀ w ∈ vx_atS own ic cls names, w.before args s = true)
    (hgood : ∀ w ∈ Cond.classLink own ik cls :: Cond.initialized cls :: vx_atS own ic cls names, vx_ot w = true)
    (hU : vx_Zq Bundle.tN "UNASSIGNED_STACK" Bundle.steD A s s.heap) (hN : vx_Zq Bundle.tN "SUPPRESSED_SENTINEL" Bundle.listD A s s.heap) (hS : va_S A s.heap H locs) (hsize : ls.size = c.maxLocals)
    (d0 : decode cc pc = .ok (.new ik, 3)) (d3 : decode cc (pc + 3) = .ok (.dup, 1)) (d4 : decode cc (pc + 4) = .ok (.ldc is, 2)) (d6 : decode cc (pc + 6) = .ok (.invokespecial ic, 3)) (d9 : decode cc (pc + 9) = .ok (.athrow, 1))
    (hout : ∀ x ∈ c.exceptionTable.toList, covers x (pc + 9) = false)
    (hRframes : names.length + 3 < R.frames) (hRlocals : (rest.map fun v => v.category).sum + (13 * (names.length + 1) + 43) ≤ R.locals) (hRcells : cells + 1 ≤ R.cells) (hRslots : slots + 6 ≤ R.slots) (hlocks : meth.locks = false)
    (hx : ∀ t : State, s.vm.Alike t.vm → H.size ≤ t.heap.size → (∀ q : Nat, q < H.size → t.heap[q]? = H[q]?) → XC cls s t)
    (hf : ∀ z ∈ locs, free z.base) (hc : cells + 1 ≤ mc) (hs : slots + 6 ≤ ms) :
    W p l e R s m args below meth c H locs cells slots (vx_MQ below Qc XC args s mc ms free) (F0 m pc ls rest) := by
  intro T hT X
  have htr : e.platform.stackTraces = false := (show e.platform.stackTraces = l.stackTraces by rw [X.admits.platform]).trans hl
  have Y := vx_rebase X (R' := { frames := R.frames, locals := R.locals, cells := 1, slots := 6 }) (Nat.le_refl _) (Nat.le_refl _) hRcells hRslots
  obtain ⟨s', hA⟩ : ∃ z, z = (T.setVm s.vm).setFrames (.invoking m args :: below) := ⟨_, rfl⟩
  rw [← hA] at Y
  have hvm : s'.vm = s.vm := by rw [hA]; rfl
  have hhp : s'.heap = H := by rw [hA]; exact hT
  have hW0 : s.WarmedH s'.vm := by rw [hvm]; exact State.WarmedH.refl s
  have hat' : ∀ w ∈ vx_atS own ic cls names, w.before args s' = true := fun w hw => vx_ot_at hW0 hvm.symm (hgood w (List.mem_cons_of_mem _ (List.mem_cons_of_mem _ hw))) (hat w hw)
  have hk' : (Cond.classLink own ik cls).before args s' = true := vx_ot_at hW0 hvm.symm (hgood _ List.mem_cons_self) hk
  have hini' : (Cond.initialized cls).before args s' = true := vx_ot_at hW0 hvm.symm (hgood _ (List.mem_cons_of_mem _ List.mem_cons_self)) hini
  have hU' : vx_Zq Bundle.tN "UNASSIGNED_STACK" Bundle.steD A s' s'.heap := by rw [hhp]; exact vx_Zq.moved hW0.alike (hU.kept hS.2.1)
  have hN' : vx_Zq Bundle.tN "SUPPRESSED_SENTINEL" Bundle.listD A s' s'.heap := by rw [hhp]; exact vx_Zq.moved hW0.alike (hN.kept hS.2.1)
  have h : ∀ w ∈ Bundle.ownAtoms own ic cls names, w.before args s' = true := vx_own hat' (vx_isRefq hU'.1) (vx_isRefq hN'.1) hU'.2.word hN'.2.word
  have hown' : s'.vm.findClass own = some m.cls := by rw [hvm]; exact hown
  have hins : (Cond.instantiable cls 6).before args s' = true := h _ (by simp [Bundle.ownAtoms])
  obtain ⟨vm₁, cX, kX, hfX, hkX, -, -, X₁, st1⟩ := Y.newCold hexec (own := own) (C := cls) (index := ik) (n := 6) hown' hk' hins hini'
    (g := F0 m pc ls rest) rfl (by rw [hb]; exact d0) (Nat.le_refl _) (Nat.le_refl _)
  generalize hT1 : (T.setVm vm₁).pushCell { cls := cX, slots := kX.instanceTypes.map defaultValue, vm := .none } = T1 at X₁ st1
  have hcat : (Value.ref T.heap.size).category = 1 := rfl
  have hcellA : T1.heap[T.heap.size]? = some (freshCell cX kX) := by rw [← hT1]; exact State.heap_pushCell_size _ _
  have d3' : decode c.code (pc + 3) = .ok (.dup, 1) := by rw [hb]; exact d3
  have d4' : decode c.code (pc + 4) = .ok (.ldc is, 2) := by rw [hb]; exact d4
  have hstr' : vk_R own is text sa s' := vk_R.warm hW0 hstr
  obtain ⟨U, hsteps, hrun, hend, hW, hsame, ce, hce, hO⟩ := X₁.ctorThrowS hexec htr (own := own) (cls := cls) (names := names) (ic := ic) hown' hcls hnames h (fun x hx => nomatch hx) hfX hkX hcellA (by rw [hhp, hT]; exact Nat.le_refl _) (msg := .ref sa) rfl
    (g := { method := m, pc := pc + 6, locals := ls, stack := .ref sa :: .ref T.heap.size :: .ref T.heap.size :: rest, locked := none }) rfl hsize rfl rfl (rest := rest) rfl
    (by rw [hb]; exact d6) (by rw [hb]; exact d9) hout hRframes (by simp only [List.map_cons, List.sum_cons, hcat]; omega) hlocks
  obtain ⟨f1, f2⟩ := vx_frame hsame
  rw [hhp] at f1 f2
  have hWs : s.WarmedH U.vm := State.WarmedH.trans hW0 hW
  have hcl : s.vm.findClass cls = some ce.cls := by
    have h9 := hO.cls
    rw [hvm] at h9
    exact h9
  have hall : s.sameButNew ({ U with vm := s.vm } : State) locs mc ms := by
    subst hA
    obtain ⟨e1, e2⟩ := hsame
    rw [State.setFrames_setFrames] at e1
    have h2 : (T.setVm s.vm).sameButNew ({ U with vm := s.vm } : State) [] (0 + 1) (0 + 6) := ⟨e1, e2⟩
    have h3 := X.same.trans h2
    rw [List.append_nil] at h3
    exact h3.mono hc hs
  refine ⟨U, ?_, .threw T.heap.size, hrun, hend, Or.inr ⟨T.heap.size, rfl, cls, ce, locs, hx U hWs.alike f1 (fun q hq => f2 q hq (fun z hz => nomatch hz)), hce, hO.vm, hcl, hWs, hall, hf⟩⟩
  refine st1 _ ?_
  show Steps p.tables e below (T1.setTop { method := m, pc := pc + 3, locals := ls, stack := .ref T.heap.size :: rest, locked := none }) _
  jvm_step X₁.here [X₁.here.top, hexec, d3', Value.category]
  exact X₁.ldcString hexec (own := own) (text := text) (index := is) (a := sa) hown' hstr'.1 hstr'.2
    (g := { method := m, pc := pc + 4, locals := ls, stack := .ref T.heap.size :: .ref T.heap.size :: rest, locked := none }) rfl d4' _ hsteps
/-- 'throw new E("text")', the text by a wide index -/
theorem vx_throwSW {cc : ByteArray} {pc : Nat} (hexec : p.tables.exec = Jvm.exec) (hb : c.code = cc) (hl : l.stackTraces = false) {own cls text : String} {names : List String} {ik is ic mc ms sa : Nat} {A : Nat → Prop}
    (hown : s.vm.findClass own = some m.cls) (hcls : Bundle.fit cls = true) (hnames : ∀ n ∈ names, Bundle.fit n = true)
    (hk : (Cond.classLink own ik cls).before args s = true) (hini : (Cond.initialized cls).before args s = true) (hstr : vk_R own is text sa s) (hat : ∀ w ∈ vx_atS own ic cls names, w.before args s = true)
    (hgood : ∀ w ∈ Cond.classLink own ik cls :: Cond.initialized cls :: vx_atS own ic cls names, vx_ot w = true)
    (hU : vx_Zq Bundle.tN "UNASSIGNED_STACK" Bundle.steD A s s.heap) (hN : vx_Zq Bundle.tN "SUPPRESSED_SENTINEL" Bundle.listD A s s.heap) (hS : va_S A s.heap H locs) (hsize : ls.size = c.maxLocals)
    (d0 : decode cc pc = .ok (.new ik, 3)) (d3 : decode cc (pc + 3) = .ok (.dup, 1)) (d4 : decode cc (pc + 4) = .ok (.ldc_w is, 3)) (d7 : decode cc (pc + 7) = .ok (.invokespecial ic, 3)) (d10 : decode cc (pc + 10) = .ok (.athrow, 1))
    (hout : ∀ x ∈ c.exceptionTable.toList, covers x (pc + 10) = false)
    (hRframes : names.length + 3 < R.frames) (hRlocals : (rest.map fun v => v.category).sum + (13 * (names.length + 1) + 43) ≤ R.locals) (hRcells : cells + 1 ≤ R.cells) (hRslots : slots + 6 ≤ R.slots) (hlocks : meth.locks = false)
    (hx : ∀ t : State, s.vm.Alike t.vm → H.size ≤ t.heap.size → (∀ q : Nat, q < H.size → t.heap[q]? = H[q]?) → XC cls s t)
    (hf : ∀ z ∈ locs, free z.base) (hc : cells + 1 ≤ mc) (hs : slots + 6 ≤ ms) :
    W p l e R s m args below meth c H locs cells slots (vx_MQ below Qc XC args s mc ms free) (F0 m pc ls rest) := by
  intro T hT X
  have htr : e.platform.stackTraces = false := (show e.platform.stackTraces = l.stackTraces by rw [X.admits.platform]).trans hl
  have Y := vx_rebase X (R' := { frames := R.frames, locals := R.locals, cells := 1, slots := 6 }) (Nat.le_refl _) (Nat.le_refl _) hRcells hRslots
  obtain ⟨s', hA⟩ : ∃ z, z = (T.setVm s.vm).setFrames (.invoking m args :: below) := ⟨_, rfl⟩
  rw [← hA] at Y
  have hvm : s'.vm = s.vm := by rw [hA]; rfl
  have hhp : s'.heap = H := by rw [hA]; exact hT
  have hW0 : s.WarmedH s'.vm := by rw [hvm]; exact State.WarmedH.refl s
  have hat' : ∀ w ∈ vx_atS own ic cls names, w.before args s' = true := fun w hw => vx_ot_at hW0 hvm.symm (hgood w (List.mem_cons_of_mem _ (List.mem_cons_of_mem _ hw))) (hat w hw)
  have hk' : (Cond.classLink own ik cls).before args s' = true := vx_ot_at hW0 hvm.symm (hgood _ List.mem_cons_self) hk
  have hini' : (Cond.initialized cls).before args s' = true := vx_ot_at hW0 hvm.symm (hgood _ (List.mem_cons_of_mem _ List.mem_cons_self)) hini
  have hU' : vx_Zq Bundle.tN "UNASSIGNED_STACK" Bundle.steD A s' s'.heap := by rw [hhp]; exact vx_Zq.moved hW0.alike (hU.kept hS.2.1)
  have hN' : vx_Zq Bundle.tN "SUPPRESSED_SENTINEL" Bundle.listD A s' s'.heap := by rw [hhp]; exact vx_Zq.moved hW0.alike (hN.kept hS.2.1)
  have h : ∀ w ∈ Bundle.ownAtoms own ic cls names, w.before args s' = true := vx_own hat' (vx_isRefq hU'.1) (vx_isRefq hN'.1) hU'.2.word hN'.2.word
  have hown' : s'.vm.findClass own = some m.cls := by rw [hvm]; exact hown
  have hins : (Cond.instantiable cls 6).before args s' = true := h _ (by simp [Bundle.ownAtoms])
  obtain ⟨vm₁, cX, kX, hfX, hkX, -, -, X₁, st1⟩ := Y.newCold hexec (own := own) (C := cls) (index := ik) (n := 6) hown' hk' hins hini'
    (g := F0 m pc ls rest) rfl (by rw [hb]; exact d0) (Nat.le_refl _) (Nat.le_refl _)
  generalize hT1 : (T.setVm vm₁).pushCell { cls := cX, slots := kX.instanceTypes.map defaultValue, vm := .none } = T1 at X₁ st1
  have hcat : (Value.ref T.heap.size).category = 1 := rfl
  have hcellA : T1.heap[T.heap.size]? = some (freshCell cX kX) := by rw [← hT1]; exact State.heap_pushCell_size _ _
  have d3' : decode c.code (pc + 3) = .ok (.dup, 1) := by rw [hb]; exact d3
  have d4' : decode c.code (pc + 4) = .ok (.ldc_w is, 3) := by rw [hb]; exact d4
  have hstr' : vk_R own is text sa s' := vk_R.warm hW0 hstr
  obtain ⟨U, hsteps, hrun, hend, hW, hsame, ce, hce, hO⟩ := X₁.ctorThrowS hexec htr (own := own) (cls := cls) (names := names) (ic := ic) hown' hcls hnames h (fun x hx => nomatch hx) hfX hkX hcellA (by rw [hhp, hT]; exact Nat.le_refl _) (msg := .ref sa) rfl
    (g := { method := m, pc := pc + 7, locals := ls, stack := .ref sa :: .ref T.heap.size :: .ref T.heap.size :: rest, locked := none }) rfl hsize rfl rfl (rest := rest) rfl
    (by rw [hb]; exact d7) (by rw [hb]; exact d10) hout hRframes (by simp only [List.map_cons, List.sum_cons, hcat]; omega) hlocks
  obtain ⟨f1, f2⟩ := vx_frame hsame
  rw [hhp] at f1 f2
  have hWs : s.WarmedH U.vm := State.WarmedH.trans hW0 hW
  have hcl : s.vm.findClass cls = some ce.cls := by
    have h9 := hO.cls
    rw [hvm] at h9
    exact h9
  have hall : s.sameButNew ({ U with vm := s.vm } : State) locs mc ms := by
    subst hA
    obtain ⟨e1, e2⟩ := hsame
    rw [State.setFrames_setFrames] at e1
    have h2 : (T.setVm s.vm).sameButNew ({ U with vm := s.vm } : State) [] (0 + 1) (0 + 6) := ⟨e1, e2⟩
    have h3 := X.same.trans h2
    rw [List.append_nil] at h3
    exact h3.mono hc hs
  refine ⟨U, ?_, .threw T.heap.size, hrun, hend, Or.inr ⟨T.heap.size, rfl, cls, ce, locs, hx U hWs.alike f1 (fun q hq => f2 q hq (fun z hz => nomatch hz)), hce, hO.vm, hcl, hWs, hall, hf⟩⟩
  refine st1 _ ?_
  show Steps p.tables e below (T1.setTop { method := m, pc := pc + 3, locals := ls, stack := .ref T.heap.size :: rest, locked := none }) _
  jvm_step X₁.here [X₁.here.top, hexec, d3', Value.category]
  exact X₁.ldcStringW hexec (own := own) (text := text) (index := is) (a := sa) hown' hstr'.1 hstr'.2
    (g := { method := m, pc := pc + 4, locals := ls, stack := .ref T.heap.size :: .ref T.heap.size :: rest, locked := none }) rfl d4' _ hsteps
end Ends
section Bodies
variable {l : Launch}
theorem vx_ofW {y : MethodName} {ws ws' : List Cond} {rm : Room} {Pc : Array Value → State → Prop} {Qc : Array Value → State → Outcome → State → Prop} {XC : String → State → State → Prop} {mc ms : Nat} {free : Addr → Prop} {cc : ByteArray} {maxL : Nat} {ret : Option FieldType}
    (hy : plainName y.cls = true) (hw : ws = Cond.code y cc maxL ret :: ws')
    (body : ∀ p e s m args below meth c s₁, BodyLoose p l y (headSpec ws rm) cc maxL ret e s m args below meth c s₁ → c.maxLocals = maxL → (∀ x ∈ c.exceptionTable.toList, False) → Pc args s →
      W p l e (headSpec ws rm).room s m args below meth c s.heap [] 0 0 (vx_MQ below Qc XC args s mc ms free) (entryFrame m args maxL)) : vx_Met l y ws rm Pc Qc XC mc ms free := by
  refine MetFree.of_bodyS (code := cc) (maxLocals := maxL) (ret := ret) hy ?_ ?_
  · intro args s m h hn
    obtain ⟨meth, c, h1, h2, h3, h4, h5, h6, -, -⟩ := Cond.code_spec hn (atoms_spec (ws := ws) h _ (by rw [hw]; exact List.mem_cons_self))
    exact ⟨meth, c, h1, h2, h3, h4, h5, h6⟩
  · intro p e s m args below meth c s₁ B hml hP _
    have hh0 : s₁.heap = s.heap := by rw [B.state]; rfl
    have ht : ∀ x ∈ c.exceptionTable.toList, False := by
      obtain ⟨meth9, c9, h1, h2, -, -, -, -, h7, -⟩ := Cond.code_spec B.named (atoms_spec (ws := ws) B.pre _ (by rw [hw]; exact List.mem_cons_self))
      cases Option.some.inj (h1.symm.trans B.method)
      cases Option.some.inj (h2.symm.trans (Stand.of_body B).code)
      intro x hx
      rw [Array.isEmpty_iff.mp h7] at hx
      cases hx
    obtain ⟨t, a1, o, b1, b2, b3⟩ := body p e s m args below meth c s₁ B hml ht hP s₁ hh0 (Stand.of_body B)
    exact ⟨t, o, a1, b1, b2, b3⟩
/-- the table of a body with handlers -/
theorem vx_table {p : Program} {x y : MethodName} {S : Spec} {cc bytes : ByteArray} {maxL maxL' : Nat} {ret ret' : Option FieldType} {e : Env} {s s₁ : State} {m : MethodId} {args : Array Value} {below : List Frame} {meth : Method} {c : Code} {hh : List (Nat × Nat × Nat × Nat)}
    (B : BodyLoose p l y S cc maxL ret e s m args below meth c s₁) (h : (Cond.codeWith y bytes maxL' ret' hh).before args s = true) : c.exceptionTable.toList = tableOf hh := by
  obtain ⟨m9, meth9, c9, hn9, h1, h2, -, -, h6, -⟩ := Cond.codeWith_spec h
  cases Option.some.inj (hn9.symm.trans B.named)
  cases Option.some.inj (h1.symm.trans B.method)
  cases Option.some.inj (h2.symm.trans (Stand.of_body B).code)
  rw [← h6, table_eq]
end Bodies
end VXA
/-! ===== END ===== -/
/-! ===== BEGIN a static call of a method with an exception table ===== -/
section VXS
variable {p : Program} {l : Launch} {e : Env} {R : Room} {s : State} {m : MethodId} {args : Array Value} {below : List Frame} {meth : Method} {c : Code} {T : State} {H : Heap} {locs : List Loc} {cells slots : Nat}
abbrev vx_CSW (R : Room) (s : State) (args : Array Value) (own : String) (index : Nat) (y : MethodName) (bytes : ByteArray) (maxL : Nat) (ret : Option FieldType) (hh : List (Nat × Nat × Nat × Nat)) (ws : List Cond) (rm : Room) (mc ms n : Nat) : Prop :=
  (rm.cells = mc ∧ rm.slots = ms ∧ rm.frames + 1 ≤ R.frames ∧ 8 + (maxL + 11) + rm.locals ≤ R.locals ∧ (∀ w ∈ ws, ∀ (a' : Array Value) (U : State), s.WarmedH U.vm → w.before a' U = true) ∧ Cond.codeWith y bytes maxL ret hh ∈ ws) ∧
  (Cond.codeWith y bytes maxL ret hh).before args s = true ∧ (Cond.initialized y.cls).before args s = true ∧ (y.cls ≠ "java/lang/invoke/MethodHandle" ∧ y.cls ≠ "java/lang/invoke/VarHandle") ∧
  (∀ sig, parseMethodDescriptor y.desc = some sig → n = sig.parameters.length) ∧ (Cond.methodLink own index y).before args s = true ∧ (Cond.static y).before args s = true
theorem vx_cwSW {own : String} {index maxL mc ms : Nat} {y : MethodName} {bytes : ByteArray} {ret : Option FieldType} {hh : List (Nat × Nat × Nat × Nat)} {Ts ws ws' : List Cond} {rm : Room} (n : Nat) (ht : ∀ w ∈ Ts, w.before args s = true) (hT : GoodIn Ts (va_wsS own index y ws)) (hw : ws = Cond.codeWith y bytes maxL ret hh :: ws') (hrc : rm.cells = mc) (hrs : rm.slots = ms)
    (hd : y.cls ≠ "java/lang/invoke/MethodHandle" ∧ y.cls ≠ "java/lang/invoke/VarHandle" ∧ (parseMethodDescriptor y.desc).map (fun d => d.parameters.length) = some n) (hR : rm.frames + 1 ≤ R.frames ∧ 8 + (maxL + 11) + rm.locals ≤ R.locals) :
    vx_CSW R s args own index y bytes maxL ret hh ws rm mc ms n := by
  have ok : ∀ w ∈ va_wsS own index y ws, w.before args s = true := fun w h => ht w (hT w h).1
  have hG : GoodIn Ts ws := fun w h => hT w (by unfold va_wsS; exact List.mem_append_right _ h)
  have hc : Cond.codeWith y bytes maxL ret hh ∈ ws := by rw [hw]; exact List.mem_cons_self
  refine ⟨⟨hrc, hrs, hR.1, hR.2, pay_in ht hG, hc⟩, ht _ (hG _ hc).1, ok _ (by simp [va_wsS]), ⟨hd.1, hd.2.1⟩, fun sig h => ?_, ok _ (by simp [va_wsS]), ok _ (by simp [va_wsS])⟩
  have h2 := hd.2.2
  rw [h] at h2
  exact (Option.some.inj h2).symm
theorem vx_callSW (X : Stand p l e R s m args below meth c T locs cells slots) (hexec : p.tables.exec = Jvm.exec) {own : String} {index : Nat} {y : MethodName} {bytes : ByteArray} {maxL : Nat} {ret : Option FieldType} {hh : List (Nat × Nat × Nat × Nat)}
    (hown : s.vm.findClass own = some m.cls) (hlink : (Cond.methodLink own index y).before args s = true) (hstat : (Cond.static y).before args s = true) (hinit : (Cond.initialized y.cls).before args s = true)
    (hcode : (Cond.codeWith y bytes maxL ret hh).before args s = true) (hy : y.cls ≠ "java/lang/invoke/MethodHandle" ∧ y.cls ≠ "java/lang/invoke/VarHandle")
    {W9 : Nat} {Pre : Pt → Array Value → Prop} {Post : Pt → Array Value → Option Value → Pt → Prop} (hK : Back l R p e below s args y 3 W9 Pre Post)
    {g : JFrame} (hg : g.method = m) (hsize : g.locals.size = c.maxLocals) {argsL rest : List Value} (hlen : ∀ sig, parseMethodDescriptor y.desc = some sig → argsL.length = sig.parameters.length)
    (hstack : g.stack = argsL.reverse ++ rest) (hW : 2 * g.monitorRoom + (rest.map fun v => v.category).sum ≤ W9) (hdg : decode c.code g.pc = .ok (.invokestatic index, 3))
    (hpre : ∀ vm₁, s.WarmedH vm₁ → Pre ⟨T.setVm vm₁, locs, cells, slots⟩ argsL.toArray) :
    ∃ (v : Option Value) (vm₁ : Vm) (B : Pt), s.WarmedH vm₁ ∧ Stand p l e R s m args below meth c B.U B.locs B.cells B.slots ∧ Post ⟨T.setVm vm₁, locs, cells, slots⟩ argsL.toArray v B ∧
      ∀ target, Steps p.tables e below (B.U.setTop { g with pc := g.pc + 3, stack := v.toList ++ rest }) target → Steps p.tables e below (T.setTop g) target := by
  obtain ⟨mk, methM, cM, hnamed, hmethM, -, -, -, -, -, -, hsigM⟩ := Cond.codeWith_spec hcode
  have hstatic : methM.isStatic = true := Cond.static_spec hnamed hmethM hstat
  obtain ⟨kP, hkP, -⟩ := className_of_methodNamed hnamed
  have hinitP : kP.init = .initialized := Cond.initialized_spec (findClass_of_methodNamed hnamed) hkP hinit
  obtain ⟨vm₁, X₁, hstep₁⟩ := X.invokestatic hexec hown hlink hnamed hmethM hstatic hkP hinitP hy (g := g) hg (argsL := argsL) (rest := rest) (hlen _ hsigM) hstack hdg
  obtain ⟨v, B, X', hpost, hsteps⟩ := hK m meth c ⟨T.setVm vm₁, locs, cells, slots⟩ { g with stack := rest } (.invokestatic index) mk argsL.toArray X₁ hg hsize hdg hW (X₁.named hnamed) (hpre vm₁ X₁.warmed)
  exact ⟨v, vm₁, B, X₁.warmed, X', hpost, fun target h => hstep₁ _ fun acts => by rw [doInvoke_state]; exact hsteps.trans h⟩
theorem vx_runSW {y : MethodName} {bytes cc : ByteArray} {maxL nL mc ms n index : Nat} {ret : Option FieldType} {hh : List (Nat × Nat × Nat × Nat)} {ws : List Cond} {rm : Room} {Pc : Array Value → State → Prop} {Qc : Array Value → State → Outcome → State → Prop} {free : Addr → Prop} {Ts : List Cond} {own : String} {As rest : List Value} {g : JFrame}
    (S : CallFix p m c cc nL s args Ts own) (hM : Met l y ws rm Pc Qc mc ms free) (cw : vx_CSW R s args own index y bytes maxL ret hh ws rm mc ms n) (hp : PreS s H Pc As)
    (hg : g.method = m) (hn : As.length = n) (hsize : g.locals.size = nL) (hstack : g.stack = As.reverse ++ rest) (hW : 2 * g.monitorRoom + (rest.map fun v => v.category).sum ≤ 8) (hdg : decode cc g.pc = .ok (.invokestatic index, 3)) (hf : cells + mc ≤ R.cells ∧ slots + ms ≤ R.slots) :
    va_Run p l e R s m args below meth c H locs cells slots mc ms g rest (Qc As.toArray) (free) := by
  obtain ⟨⟨hrc, hrs, hfr, hlo, hws, hcw⟩, hcode, hini, hy, hlen, hl, hstt⟩ := cw
  have hK : Back l R p e below s args y 3 8 (PreOf R mc ms Pc) (PostOf Qc mc ms free) := va_backW (hh := hh) (bytes := bytes) (maxL := maxL) (ret := ret) hM hp.1 hrc hrs hfr hlo hws hcw (fun a' U hW => word_at hW (Or.inl (by first | rfl | simp [Cond.onTables, Cond.keeps, Cond.steady])) hini)
  obtain ⟨hx, hb, hml, ho, -⟩ := S
  intro T hT X
  obtain ⟨v, vm₁, ⟨U', l2, c2, s2⟩, hW₁, X', ⟨g', mk, t, L, e1, e2, hq, h1, hL, h2, h3⟩, st⟩ := vx_callSW X hx (hh := hh) (bytes := bytes) (maxL := maxL) (ret := ret) ho hl hstt hini hcode hy hK hg (hsize.trans hml.symm) (argsL := As) (rest := rest) (fun sig h => hn.trans (hlen sig h)) hstack hW (by rw [hb]; exact hdg)
    (fun vm₁ hW₁ => ⟨hf.1, hf.2, hp.2 (T.setVm vm₁) hT hW₁⟩)
  dsimp only [Pt.U, Pt.locs, Pt.cells, Pt.slots] at X' e1 e2 h1 h2 h3 st
  subst h1; subst h2; subst h3
  exact ⟨v, (T.setVm vm₁).calling g' mk As.toArray, t, U', L, hT, X', hL, e1, e2, hq, st⟩
/-- not caught here, past rows that name other classes: it goes on to the caller -/
theorem vx_outP {p : Program} {l : Launch} {e : Env} {R : Room} {s : State} {m : MethodId} {args : Array Value} {below : List Frame} {meth : Method} {c : Code} {H : Heap} {locs : List Loc} {cells slots : Nat} {free : Addr → Prop} {ls : Array Slot} {rest : List Value} {Qc : Array Value → State → Outcome → State → Prop} {XC : String → State → State → Prop}
    {pc : Nat} {own E : String} {ce : Cell} {q : Addr} {mc ms : Nat} (hown : s.vm.findClass own = some m.cls) (hlocks : meth.locks = false)
    (hpass : ∀ z ∈ c.exceptionTable.toList, covers z pc = false ∨ (z.catchType ≠ 0 ∧ ∃ nm : String, (Cond.classLink own z.catchType nm).before args s = true ∧ va_Nc E nm s)) (hcell : H[q]? = some ce) (hv : ce.vm = .none) (hcl : s.vm.findClass E = some ce.cls)
    (hx : ∀ t : State, t.heap = H → s.vm.Alike t.vm → XC E s t) (hf : ∀ z ∈ locs, free z.base) (hc : cells ≤ mc) (hs : slots ≤ ms) :
    vx_W p l e R s m args below meth c H locs cells slots (vx_MQ below Qc XC args s mc ms free) (F0 m pc ls rest) q := by
  intro T hT X
  have hpl : e.platform.magicAccessors = ({} : Platform).magicAccessors := by rw [X.admits.platform]
  obtain ⟨vm', hW', X', st⟩ := X.outThrough hlocks q (g := F0 m pc ls rest) rfl rfl rfl (cell := ce) (by rw [hT]; exact hcell) (by rw [hv]; rfl)
    (by obtain ⟨k9, h9, -⟩ := Vm.findClass_spec hcl; exact ⟨k9, h9⟩) (fun z hz => by
      rcases hpass z hz with h | ⟨hz0, nm, hl1, hn1⟩
      · exact Or.inl h
      · obtain ⟨c6, hc6, hcl6⟩ := Cond.classLink_spec hown hl1 e.platform hpl
        obtain ⟨a8, b8, h1, h2, h3⟩ := hn1
        cases Option.some.inj (h1.symm.trans hcl)
        cases Option.some.inj (h2.symm.trans hc6)
        exact Or.inr ⟨hz0, _, hcl6, h3⟩)
  obtain ⟨g₀, hfr⟩ := X'.frames_eq
  have hcell9 : ((T.setVm vm').setFrames (.throwing q :: below)).heap[q]? = some ce := by
    show T.heap[q]? = some ce
    rw [hT]; exact hcell
  have hend : Ended ((T.setVm vm').setFrames (.throwing q :: below)) below (.threw q) := State.frames_setFrames _ (State.cur_lt_of_frames hfr)
  refine ⟨(T.setVm vm').setFrames (.throwing q :: below), ?_, .threw q, X'.here.running, hend, Or.inr ⟨q, rfl, E, ce, locs, hx _ hT (X'.ends _).1.alike, hcell9, hv, hcl, (X'.ends _).1, (X'.ends _).2.mono hc hs, hf⟩⟩
  rw [X.pushThrowing_eq]
  exact st
/-- a thing of a world lies in the heap -/
theorem vx_lt {D : va_G} {cl : List vw_C} {ws : va_W} {H1 : Heap} (h : va_P D cl ws H1) {k : Nat} {q : Nat × va_E} (hk : ws[k]? = some q) : q.1 < H1.size := (h k q hk).lt
end VXS
/-! ===== END ===== -/
/-! ===== BEGIN methods with a table of their own: called by a name, returning or throwing ===== -/
section VXH
/-! vx_backW, vx_callVX, vx_callSX, vx_callVW, vx_runVW, vx_runVX, vx_runSX, vx_ofWH follow the same proofs as their sisters above (Free/Laws.lean, Shelf42/LK1.lean); vx_outP calls Shelf42/NT130.lean (outThrough). -/
section
variable {l : Launch} {R : Room} {p : Program} {e : Env} {below : List Frame} {s : State} {sargs : Array Value} {y : MethodName} {len W9 : Nat}
theorem vx_backW {ws : List Cond} {rm : Room} {Pc : Array Value → State → Prop} {Qc : Array Value → State → Outcome → State → Prop} {XC : String → State → State → Prop} {mc ms : Nat} {free : Addr → Prop} {bytes : ByteArray} {maxL : Nat} {ret : Option FieldType} {hh : List (Nat × Nat × Nat × Nat)}
    (hM : vx_Met l y ws rm Pc Qc XC mc ms free) (hblind : FrameBlind Pc) (hrc : rm.cells = mc) (hrs : rm.slots = ms)
    (hframes : rm.frames + 1 ≤ R.frames) (hlocals : W9 + (maxL + 11) + rm.locals ≤ R.locals)
    (hws : ∀ w ∈ ws, ∀ a' U, s.WarmedH U.vm → w.before a' U = true) (hcode : Cond.codeWith y bytes maxL ret hh ∈ ws) (hinit : ∀ a' U, s.WarmedH U.vm → (Cond.initialized y.cls).before a' U = true) :
    vx_Back l R p e below s sargs y len W9 (PreOf R mc ms Pc) (PostOf Qc mc ms free) (vx_Post XC mc ms free) := by
  intro m meth c A g ig mk a X hg hsize hdg hW hn hp
  have h1 : (headSpec ws rm).pre.before a A.U = true := atoms_intro fun w hw => hws w hw _ _ X.warmed
  have h2 : (Cond.codeWith y bytes maxL ret hh).before a A.U = true := hws _ hcode _ _ X.warmed
  have h3 : (Cond.initialized y.cls).before a A.U = true := hinit _ _ X.warmed
  have h4 : A.cells + (headSpec ws rm).room.cells ≤ R.cells := by rw [show (headSpec ws rm).room.cells = mc from hrc]; exact hp.1
  have h5 : A.slots + (headSpec ws rm).room.slots ≤ R.slots := by rw [show (headSpec ws rm).room.slots = ms from hrs]; exact hp.2.1
  have hPc : Pc a (A.U.calling g mk a) := hblind _ _ _ _ hp.2.2
  obtain ⟨U, Ls, c0, s0⟩ := A
  dsimp only [Pt.U, Pt.locs, Pt.cells, Pt.slots] at h1 h2 h3 h4 h5 X hn hPc ⊢
  obtain ⟨m9, methY, cY, hn9, hmY, hcY, -, hlY, -⟩ := Cond.codeWith_spec h2
  cases Option.some.inj (hn9.symm.trans hn)
  obtain ⟨kY, hkY, -⟩ := className_of_methodNamed hn
  have hinitY : kY.init = .initialized := Cond.initialized_spec (findClass_of_methodNamed hn) hkY h3
  have h : At U g.method c below := by rw [hg]; exact X.here
  have hlocals9 : W9 + (maxL + 11) + (headSpec ws rm).room.locals ≤ R.locals := hlocals
  have happ : (headSpec ws rm).appliesLoose y e.platform (U.calling g mk a) = true :=
    Spec.appliesLoose_calling (g := g) h hdg hn hkY hinitY
      (X.room_calling (g := g) (R' := (headSpec ws rm).room) hsize hmY hcY hframes (by rw [hlY]; omega) h4 h5) h1
  obtain ⟨mid, hmid⟩ := h.above
  have hfr : (U.setTop g).frames = (.java g :: mid) ++ below := by rw [State.frames_setTop' g h.top, hmid]; rfl
  obtain ⟨o, s₂, hsteps, -, hend, hq⟩ := Steps.callFree hM p X.admits X.cas X.clock (acts := []) hfr happ hPc trivial
  have hq' : vx_Q Qc XC mc ms free a (U.calling g mk a) o s₂ := hq
  rw [State.frames_setTop' g h.top] at hend
  obtain ⟨g₀, hg0⟩ := Option.isSome_iff_exists.mp h.top
  obtain ⟨r, hr⟩ := State.topJava?_eq_some.mp hg0
  have hr' : (({ U with heap := s₂.heap, slotsUsed := s₂.slotsUsed } : State).setVm s₂.vm).frames = .java g₀ :: r := hr
  rcases hq' with ⟨hqc, L, hfe, hL⟩ | ⟨q, rfl, E, ce, L, hx, hce, hcv, hcl, hW₂, hsm, hL⟩
  · obtain ⟨⟨v, rfl⟩, hW₂, e2, q2, q3, q4, q5, q6⟩ := id hfe
    have e3 : s₂ = ({ (U.calling g mk a).setFrames s₂.frames with heap := s₂.heap, slotsUsed := s₂.slotsUsed } : State).setVm s₂.vm := by
      have : s₂ = ({ s₂ with vm := (U.calling g mk a).vm } : State).setVm s₂.vm := rfl
      rw [e2] at this
      exact this
    obtain ⟨c₂, i₂, len₂, hc₂, hd₂, hf₂⟩ := hend
    have hW' : U.WarmedH s₂.vm := hW₂
    have hcc : c₂ = c := by
      have h1 : s₂.code? g.method = U.code? g.method := by
        rw [State.code?_eq, State.code?_eq, hW'.alike.method?]
      exact Option.some.inj (hc₂.symm.trans (h1.trans h.code))
    subst hcc
    have hlen : len₂ = len := by rw [hdg] at hd₂; cases hd₂; rfl
    subst hlen
    have hs₂ : s₂ = (({ U with heap := s₂.heap, slotsUsed := s₂.slotsUsed } : State).setVm s₂.vm).setTop { g with pc := g.pc + len₂, stack := v.toList ++ g.stack } := by
      refine e3.trans ?_
      rw [hf₂, State.calling_eq h.top, State.setFrames_setFrames, State.setTop_of_frames _ hr', hr]
      rfl
    have hsame : U.sameButNew ({ U with heap := s₂.heap, slotsUsed := s₂.slotsUsed } : State) L mc ms := by
      refine ⟨?_, q2, q3, q4, q5, q6⟩
      obtain ⟨t, ht, -⟩ := State.frames_cons hr
      show ({ U with heap := s₂.heap, slotsUsed := s₂.slotsUsed } : State) = { U.setFrames U.frames with heap := s₂.heap, slotsUsed := s₂.slotsUsed }
      rw [State.setFrames_self ht]
    subst hg
    refine Or.inl ⟨v, ⟨(({ U with heap := s₂.heap, slotsUsed := s₂.slotsUsed } : State).setVm s₂.vm), Ls ++ L, c0 + mc, s0 + ms⟩,
      ⟨X.admits, X.cas, X.clock, X.frames, X.room, X.hears, X.method, X.code, (X.here.setHeapUsed s₂.heap s₂.slotsUsed).setVm hW'.alike, X.tail, State.WarmedH.trans X.warmed hW', X.limits, X.bytes, X.same.trans (hsame.setVm s.vm)⟩,
      ⟨g, mk, s₂, L, rfl, rfl, hqc, rfl, hL, rfl, rfl⟩, ?_⟩
    show Steps p.tables e below _ ((({ U with heap := s₂.heap, slotsUsed := s₂.slotsUsed } : State).setVm s₂.vm).setTop { g with pc := g.pc + len₂, stack := v.toList ++ g.stack })
    rw [← hs₂]
    exact hsteps
  · obtain ⟨e2, q2, q3, q4, q5, q6⟩ := id hsm
    have e3 : s₂ = ({ (U.calling g mk a).setFrames s₂.frames with heap := s₂.heap, slotsUsed := s₂.slotsUsed } : State).setVm s₂.vm := by
      have : s₂ = ({ s₂ with vm := (U.calling g mk a).vm } : State).setVm s₂.vm := rfl
      rw [e2] at this
      exact this
    have hf₂ : s₂.frames = .throwing q :: .java g :: U.frames.tail := hend
    have hW' : U.WarmedH s₂.vm := hW₂
    have hs₂ : s₂ = ((({ U with heap := s₂.heap, slotsUsed := s₂.slotsUsed } : State).setVm s₂.vm).setTop g).pushFrame (.throwing q) := by
      refine e3.trans ?_
      rw [hf₂, State.calling_eq h.top, State.setFrames_setFrames, State.pushFrame, State.frames_setTop _ hr', State.setTop_of_frames _ hr', State.setFrames_setFrames, hr]
      rfl
    have hsame : U.sameButNew ({ U with heap := s₂.heap, slotsUsed := s₂.slotsUsed } : State) L mc ms := by
      refine ⟨?_, q2, q3, q4, q5, q6⟩
      obtain ⟨t, ht, -⟩ := State.frames_cons hr
      show ({ U with heap := s₂.heap, slotsUsed := s₂.slotsUsed } : State) = { U.setFrames U.frames with heap := s₂.heap, slotsUsed := s₂.slotsUsed }
      rw [State.setFrames_self ht]
    subst hg
    refine Or.inr ⟨q, ⟨(({ U with heap := s₂.heap, slotsUsed := s₂.slotsUsed } : State).setVm s₂.vm), Ls ++ L, c0 + mc, s0 + ms⟩,
      ⟨X.admits, X.cas, X.clock, X.frames, X.room, X.hears, X.method, X.code, (X.here.setHeapUsed s₂.heap s₂.slotsUsed).setVm hW'.alike, X.tail, State.WarmedH.trans X.warmed hW', X.limits, X.bytes, X.same.trans (hsame.setVm s.vm)⟩,
      ⟨g, mk, s₂, L, E, ce, rfl, rfl, hx, hce, hcv, hcl, rfl, hL, rfl, rfl⟩, ?_⟩
    show Steps p.tables e below _ (((({ U with heap := s₂.heap, slotsUsed := s₂.slotsUsed } : State).setVm s₂.vm).setTop g).pushFrame (.throwing q))
    rw [← hs₂]
    exact hsteps
end
variable {p : Program} {l : Launch} {e : Env} {R : Room} {s : State} {m : MethodId} {args : Array Value} {below : List Frame} {meth : Method} {c : Code} {T : State} {H : Heap} {locs : List Loc} {cells slots : Nat}
theorem vx_callVX (X : Stand p l e R s m args below meth c T locs cells slots) (hexec : p.tables.exec = Jvm.exec) {own C : String} {index : Nat} {y : MethodName} {bytes : ByteArray} {maxL : Nat} {ret : Option FieldType} {hh : List (Nat × Nat × Nat × Nat)}
    (hown : s.vm.findClass own = some m.cls) (hlink : (Cond.methodLink own index y).before args s = true) (hinst : (Cond.instanceMethod y).before args s = true) (hsel : (Cond.selects C y y).before args s = true)
    (hcode : (Cond.codeWith y bytes maxL ret hh).before args s = true) (hy : y.cls ≠ "java/lang/invoke/MethodHandle" ∧ y.cls ≠ "java/lang/invoke/VarHandle")
    {W9 : Nat} {Pre : Pt → Array Value → Prop} {Post : Pt → Array Value → Option Value → Pt → Prop} {PostX : Pt → Array Value → Addr → Pt → Prop} (hK : vx_Back l R p e below s args y 3 W9 Pre Post PostX)
    {b : Addr} {cellB : Cell} (hcell : T.heap[b]? = some cellB) (hobj : cellB.vm.isStatics = false) (hcls : s.vm.findClass C = some cellB.cls)
    {g : JFrame} (hg : g.method = m) (hsize : g.locals.size = c.maxLocals) {argsL rest : List Value} (hlen : ∀ sig, parseMethodDescriptor y.desc = some sig → argsL.length = sig.parameters.length)
    (hstack : g.stack = argsL.reverse ++ .ref b :: rest) (hW : 2 * g.monitorRoom + (rest.map fun v => v.category).sum ≤ W9) (hdg : decode c.code g.pc = .ok (.invokevirtual index, 3))
    (hpre : ∀ vm₁, s.WarmedH vm₁ → Pre ⟨T.setVm vm₁, locs, cells, slots⟩ (Value.ref b :: argsL).toArray) :
    (∃ (v : Option Value) (vm₁ : Vm) (B : Pt), s.WarmedH vm₁ ∧ Stand p l e R s m args below meth c B.U B.locs B.cells B.slots ∧ Post ⟨T.setVm vm₁, locs, cells, slots⟩ (Value.ref b :: argsL).toArray v B ∧
      ∀ target, Steps p.tables e below (B.U.setTop { g with pc := g.pc + 3, stack := v.toList ++ rest }) target → Steps p.tables e below (T.setTop g) target) ∨
    (∃ (q : Addr) (vm₁ : Vm) (B : Pt), s.WarmedH vm₁ ∧ Stand p l e R s m args below meth c B.U B.locs B.cells B.slots ∧ PostX ⟨T.setVm vm₁, locs, cells, slots⟩ (Value.ref b :: argsL).toArray q B ∧
      Steps p.tables e below (T.setTop g) ((B.U.setTop { g with stack := rest }).pushFrame (.throwing q))) := by
  obtain ⟨mk, methM, hnamed, hmethM, hstM, habM⟩ := Cond.instanceMethod_spec hinst
  obtain ⟨m8, methM', cM, hn8, hmethM', -, -, -, -, -, -, hsigM⟩ := Cond.codeWith_spec hcode
  cases Option.some.inj (hn8.symm.trans hnamed)
  cases hmethM.symm.trans hmethM'
  obtain ⟨c2, r2, m2, q1, q2, q3, q4, kP, hkP, hkPi⟩ := Cond.selects_spec hsel
  cases hcls.symm.trans q1
  cases (State.methodFound?_of_named hnamed hy).symm.trans q2
  cases hnamed.symm.trans q3
  have hselP : selectMethod e.platform s.vm cellB.cls mk = .method mk := by rw [Launch.admits_selectMethod X.admits]; exact q4
  obtain ⟨vm₁, X₁, hstep₁⟩ := X.invokevirtual hexec hown hlink hnamed hmethM hstM hkP hkPi hy (a := b) (cell := cellB) hcell
    (fun z h => by rw [h] at hobj; cases hobj) hselP hmethM habM hkP hkPi (g := g) hg (argsL := argsL) (rest := rest) (hlen _ hsigM) hstack hdg
  rcases hK m meth c ⟨T.setVm vm₁, locs, cells, slots⟩ { g with stack := rest } (.invokevirtual index) mk (Value.ref b :: argsL).toArray X₁ hg hsize hdg hW (X₁.named hnamed) (hpre vm₁ X₁.warmed) with ⟨v, B, X', hpost, hsteps⟩ | ⟨q, B, X', hpost, hsteps⟩
  · exact Or.inl ⟨v, vm₁, B, X₁.warmed, X', hpost, fun target h => hstep₁ _ fun acts => by rw [doInvoke_state]; exact hsteps.trans h⟩
  · exact Or.inr ⟨q, vm₁, B, X₁.warmed, X', hpost, hstep₁ _ fun acts => by rw [doInvoke_state]; exact hsteps⟩
theorem vx_callSX (X : Stand p l e R s m args below meth c T locs cells slots) (hexec : p.tables.exec = Jvm.exec) {own : String} {index : Nat} {y : MethodName} {bytes : ByteArray} {maxL : Nat} {ret : Option FieldType} {hh : List (Nat × Nat × Nat × Nat)}
    (hown : s.vm.findClass own = some m.cls) (hlink : (Cond.methodLink own index y).before args s = true) (hstat : (Cond.static y).before args s = true) (hinit : (Cond.initialized y.cls).before args s = true)
    (hcode : (Cond.codeWith y bytes maxL ret hh).before args s = true) (hy : y.cls ≠ "java/lang/invoke/MethodHandle" ∧ y.cls ≠ "java/lang/invoke/VarHandle")
    {W9 : Nat} {Pre : Pt → Array Value → Prop} {Post : Pt → Array Value → Option Value → Pt → Prop} {PostX : Pt → Array Value → Addr → Pt → Prop} (hK : vx_Back l R p e below s args y 3 W9 Pre Post PostX)
    {g : JFrame} (hg : g.method = m) (hsize : g.locals.size = c.maxLocals) {argsL rest : List Value} (hlen : ∀ sig, parseMethodDescriptor y.desc = some sig → argsL.length = sig.parameters.length)
    (hstack : g.stack = argsL.reverse ++ rest) (hW : 2 * g.monitorRoom + (rest.map fun v => v.category).sum ≤ W9) (hdg : decode c.code g.pc = .ok (.invokestatic index, 3))
    (hpre : ∀ vm₁, s.WarmedH vm₁ → Pre ⟨T.setVm vm₁, locs, cells, slots⟩ argsL.toArray) :
    (∃ (v : Option Value) (vm₁ : Vm) (B : Pt), s.WarmedH vm₁ ∧ Stand p l e R s m args below meth c B.U B.locs B.cells B.slots ∧ Post ⟨T.setVm vm₁, locs, cells, slots⟩ argsL.toArray v B ∧
      ∀ target, Steps p.tables e below (B.U.setTop { g with pc := g.pc + 3, stack := v.toList ++ rest }) target → Steps p.tables e below (T.setTop g) target) ∨
    (∃ (q : Addr) (vm₁ : Vm) (B : Pt), s.WarmedH vm₁ ∧ Stand p l e R s m args below meth c B.U B.locs B.cells B.slots ∧ PostX ⟨T.setVm vm₁, locs, cells, slots⟩ argsL.toArray q B ∧
      Steps p.tables e below (T.setTop g) ((B.U.setTop { g with stack := rest }).pushFrame (.throwing q))) := by
  obtain ⟨mk, methM, cM, hnamed, hmethM, -, -, -, -, -, -, hsigM⟩ := Cond.codeWith_spec hcode
  have hstatic : methM.isStatic = true := Cond.static_spec hnamed hmethM hstat
  obtain ⟨kP, hkP, -⟩ := className_of_methodNamed hnamed
  have hinitP : kP.init = .initialized := Cond.initialized_spec (findClass_of_methodNamed hnamed) hkP hinit
  obtain ⟨vm₁, X₁, hstep₁⟩ := X.invokestatic hexec hown hlink hnamed hmethM hstatic hkP hinitP hy (g := g) hg (argsL := argsL) (rest := rest) (hlen _ hsigM) hstack hdg
  rcases hK m meth c ⟨T.setVm vm₁, locs, cells, slots⟩ { g with stack := rest } (.invokestatic index) mk argsL.toArray X₁ hg hsize hdg hW (X₁.named hnamed) (hpre vm₁ X₁.warmed) with ⟨v, B, X', hpost, hsteps⟩ | ⟨q, B, X', hpost, hsteps⟩
  · exact Or.inl ⟨v, vm₁, B, X₁.warmed, X', hpost, fun target h => hstep₁ _ fun acts => by rw [doInvoke_state]; exact hsteps.trans h⟩
  · exact Or.inr ⟨q, vm₁, B, X₁.warmed, X', hpost, hstep₁ _ fun acts => by rw [doInvoke_state]; exact hsteps⟩
theorem vx_callVW (X : Stand p l e R s m args below meth c T locs cells slots) (hexec : p.tables.exec = Jvm.exec) {own C : String} {index : Nat} {y : MethodName} {bytes : ByteArray} {maxL : Nat} {ret : Option FieldType} {hh : List (Nat × Nat × Nat × Nat)}
    (hown : s.vm.findClass own = some m.cls) (hlink : (Cond.methodLink own index y).before args s = true) (hinst : (Cond.instanceMethod y).before args s = true) (hsel : (Cond.selects C y y).before args s = true)
    (hcode : (Cond.codeWith y bytes maxL ret hh).before args s = true) (hy : y.cls ≠ "java/lang/invoke/MethodHandle" ∧ y.cls ≠ "java/lang/invoke/VarHandle")
    {W9 : Nat} {Pre : Pt → Array Value → Prop} {Post : Pt → Array Value → Option Value → Pt → Prop} (hK : Back l R p e below s args y 3 W9 Pre Post)
    {b : Addr} {cellB : Cell} (hcell : T.heap[b]? = some cellB) (hobj : cellB.vm.isStatics = false) (hcls : s.vm.findClass C = some cellB.cls)
    {g : JFrame} (hg : g.method = m) (hsize : g.locals.size = c.maxLocals) {argsL rest : List Value} (hlen : ∀ sig, parseMethodDescriptor y.desc = some sig → argsL.length = sig.parameters.length)
    (hstack : g.stack = argsL.reverse ++ .ref b :: rest) (hW : 2 * g.monitorRoom + (rest.map fun v => v.category).sum ≤ W9) (hdg : decode c.code g.pc = .ok (.invokevirtual index, 3))
    (hpre : ∀ vm₁, s.WarmedH vm₁ → Pre ⟨T.setVm vm₁, locs, cells, slots⟩ (Value.ref b :: argsL).toArray) :
    ∃ (v : Option Value) (vm₁ : Vm) (B : Pt), s.WarmedH vm₁ ∧ Stand p l e R s m args below meth c B.U B.locs B.cells B.slots ∧ Post ⟨T.setVm vm₁, locs, cells, slots⟩ (Value.ref b :: argsL).toArray v B ∧
      ∀ target, Steps p.tables e below (B.U.setTop { g with pc := g.pc + 3, stack := v.toList ++ rest }) target → Steps p.tables e below (T.setTop g) target := by
  obtain ⟨mk, methM, hnamed, hmethM, hstM, habM⟩ := Cond.instanceMethod_spec hinst
  obtain ⟨m8, methM', cM, hn8, hmethM', -, -, -, -, -, -, hsigM⟩ := Cond.codeWith_spec hcode
  cases Option.some.inj (hn8.symm.trans hnamed)
  cases hmethM.symm.trans hmethM'
  obtain ⟨c2, r2, m2, q1, q2, q3, q4, kP, hkP, hkPi⟩ := Cond.selects_spec hsel
  cases hcls.symm.trans q1
  cases (State.methodFound?_of_named hnamed hy).symm.trans q2
  cases hnamed.symm.trans q3
  have hselP : selectMethod e.platform s.vm cellB.cls mk = .method mk := by rw [Launch.admits_selectMethod X.admits]; exact q4
  obtain ⟨vm₁, X₁, hstep₁⟩ := X.invokevirtual hexec hown hlink hnamed hmethM hstM hkP hkPi hy (a := b) (cell := cellB) hcell
    (fun z h => by rw [h] at hobj; cases hobj) hselP hmethM habM hkP hkPi (g := g) hg (argsL := argsL) (rest := rest) (hlen _ hsigM) hstack hdg
  obtain ⟨v, B, X', hpost, hsteps⟩ := hK m meth c ⟨T.setVm vm₁, locs, cells, slots⟩ { g with stack := rest } (.invokevirtual index) mk (Value.ref b :: argsL).toArray X₁ hg hsize hdg hW (X₁.named hnamed) (hpre vm₁ X₁.warmed)
  exact ⟨v, vm₁, B, X₁.warmed, X', hpost, fun target h => hstep₁ _ fun acts => by rw [doInvoke_state]; exact hsteps.trans h⟩
abbrev vx_CVW (R : Room) (s : State) (args : Array Value) (own C : String) (index : Nat) (y : MethodName) (bytes : ByteArray) (maxL : Nat) (ret : Option FieldType) (hh : List (Nat × Nat × Nat × Nat)) (ws : List Cond) (rm : Room) (mc ms n : Nat) : Prop :=
  (rm.cells = mc ∧ rm.slots = ms ∧ rm.frames + 1 ≤ R.frames ∧ 8 + (maxL + 11) + rm.locals ≤ R.locals ∧ (∀ w ∈ ws, ∀ (a' : Array Value) (U : State), s.WarmedH U.vm → w.before a' U = true) ∧ Cond.codeWith y bytes maxL ret hh ∈ ws) ∧
  (Cond.codeWith y bytes maxL ret hh).before args s = true ∧ (Cond.initialized y.cls).before args s = true ∧ (y.cls ≠ "java/lang/invoke/MethodHandle" ∧ y.cls ≠ "java/lang/invoke/VarHandle") ∧
  (∀ sig, parseMethodDescriptor y.desc = some sig → n = sig.parameters.length) ∧ (Cond.methodLink own index y).before args s = true ∧ (Cond.instanceMethod y).before args s = true ∧ (Cond.selects C y y).before args s = true
theorem vx_cwVW {own C : String} {index maxL mc ms : Nat} {y : MethodName} {bytes : ByteArray} {ret : Option FieldType} {hh : List (Nat × Nat × Nat × Nat)} {Ts ws ws' : List Cond} {rm : Room} (n : Nat) (ht : ∀ w ∈ Ts, w.before args s = true) (hT : GoodIn Ts (wsV own index C y ws)) (hw : ws = Cond.codeWith y bytes maxL ret hh :: ws') (hrc : rm.cells = mc) (hrs : rm.slots = ms)
    (hd : y.cls = C ∧ y.cls ≠ "java/lang/invoke/MethodHandle" ∧ y.cls ≠ "java/lang/invoke/VarHandle" ∧ (parseMethodDescriptor y.desc).map (fun d => d.parameters.length) = some n) (hR : rm.frames + 1 ≤ R.frames ∧ 8 + (maxL + 11) + rm.locals ≤ R.locals) :
    vx_CVW R s args own C index y bytes maxL ret hh ws rm mc ms n := by
  obtain ⟨hC, hd⟩ := hd
  subst hC
  have ok : ∀ w ∈ wsV own index y.cls y ws, w.before args s = true := fun w h => ht w (hT w h).1
  have hG : GoodIn Ts ws := fun w h => hT w (by unfold wsV; exact List.mem_append_right _ h)
  have hc : Cond.codeWith y bytes maxL ret hh ∈ ws := by rw [hw]; exact List.mem_cons_self
  refine ⟨⟨hrc, hrs, hR.1, hR.2, pay_in ht hG, hc⟩, ht _ (hG _ hc).1, ok _ (by simp [wsV]), ⟨hd.1, hd.2.1⟩, fun sig h => ?_, ok _ (by simp [wsV]), ok _ (by simp [wsV]), ok _ (by simp [wsV])⟩
  have h2 := hd.2.2
  rw [h] at h2
  exact (Option.some.inj h2).symm
theorem vx_runVW {y : MethodName} {bytes cc : ByteArray} {maxL nL mc ms n index : Nat} {ret : Option FieldType} {hh : List (Nat × Nat × Nat × Nat)} {ws : List Cond} {rm : Room} {Pc : Array Value → State → Prop} {Qc : Array Value → State → Outcome → State → Prop} {free : Addr → Prop} {Ts : List Cond} {own C : String} {b : Addr} {As rest : List Value} {g : JFrame}
    (S : CallFix p m c cc nL s args Ts own) (hM : Met l y ws rm Pc Qc mc ms free) (cw : vx_CVW R s args own C index y bytes maxL ret hh ws rm mc ms n) (hp : PreV s H C b Pc As)
    (hg : g.method = m) (hn : As.length = n) (hsize : g.locals.size = nL) (hstack : g.stack = As.reverse ++ .ref b :: rest) (hW : 2 * g.monitorRoom + (rest.map fun v => v.category).sum ≤ 8) (hdg : decode cc g.pc = .ok (.invokevirtual index, 3)) (hf : cells + mc ≤ R.cells ∧ slots + ms ≤ R.slots) :
    va_Run p l e R s m args below meth c H locs cells slots mc ms g rest (Qc (Value.ref b :: As).toArray) free := by
  obtain ⟨⟨hrc, hrs, hfr, hlo, hws, hcw⟩, hcode, hini, hy, hlen, hl, hin, hse⟩ := cw
  have hK : Back l R p e below s args y 3 8 (PreOf R mc ms Pc) (PostOf Qc mc ms free) := va_backW (hh := hh) (bytes := bytes) (maxL := maxL) (ret := ret) hM hp.1 hrc hrs hfr hlo hws hcw (fun a' U hW => word_at hW (Or.inl (by first | rfl | simp [Cond.onTables, Cond.keeps, Cond.steady])) hini)
  obtain ⟨hx, hb, hml, ho, -⟩ := S
  obtain ⟨-, ⟨cellB, hcB, hoB, hclB⟩, hPc⟩ := hp
  intro T hT X
  obtain ⟨v, vm₁, ⟨U', l2, c2, s2⟩, hW₁, X', ⟨g', mk, t, L, e1, e2, hq, h1, hL, h2, h3⟩, st⟩ := vx_callVW X hx (C := C) (hh := hh) (bytes := bytes) (maxL := maxL) (ret := ret) ho hl hin hse hcode hy hK (by rw [hT]; exact hcB) hoB hclB hg (hsize.trans hml.symm) (argsL := As) (rest := rest) (fun sig h => hn.trans (hlen sig h)) hstack hW (by rw [hb]; exact hdg)
    (fun vm₁ hW₁ => ⟨hf.1, hf.2, hPc (T.setVm vm₁) hT hW₁⟩)
  dsimp only [Pt.U, Pt.locs, Pt.cells, Pt.slots] at X' e1 e2 h1 h2 h3 st
  subst h1; subst h2; subst h3
  exact ⟨v, (T.setVm vm₁).calling g' mk (Value.ref b :: As).toArray, t, U', L, hT, X', hL, e1, e2, hq, st⟩
section
variable {y : MethodName} {bytes cc : ByteArray} {maxL nL mc ms n index : Nat} {ret : Option FieldType} {ws : List Cond} {rm : Room} {Pc : Array Value → State → Prop} {Qc : Array Value → State → Outcome → State → Prop} {XC : String → State → State → Prop} {free : Addr → Prop} {Ts : List Cond} {own C : String} {b : Addr} {As rest : List Value} {g : JFrame}
theorem vx_runVX {hh : List (Nat × Nat × Nat × Nat)} (S : CallFix p m c cc nL s args Ts own) (hM : vx_Met l y ws rm Pc Qc XC mc ms free) (cw : vx_CVW R s args own C index y bytes maxL ret hh ws rm mc ms n) (hp : PreV s H C b Pc As)
    (hg : g.method = m) (hn : As.length = n) (hsize : g.locals.size = nL) (hstack : g.stack = As.reverse ++ .ref b :: rest) (hW : 2 * g.monitorRoom + (rest.map fun v => v.category).sum ≤ 8) (hdg : decode cc g.pc = .ok (.invokevirtual index, 3)) (hf : cells + mc ≤ R.cells ∧ slots + ms ≤ R.slots) :
    vx_Run p l e R s m args below meth c H locs cells slots mc ms g rest (Qc (Value.ref b :: As).toArray) XC free := by
  obtain ⟨⟨hrc, hrs, hfr, hlo, hws, hcw⟩, hcode, hini, hy, hlen, hl, hin, hse⟩ := cw
  have hK : vx_Back l R p e below s args y 3 8 (PreOf R mc ms Pc) (PostOf Qc mc ms free) (vx_Post XC mc ms free) := vx_backW (hh := hh) (bytes := bytes) (maxL := maxL) (ret := ret) hM hp.1 hrc hrs hfr hlo hws hcw (fun a' U hW => word_at hW (Or.inl (by first | rfl | simp [Cond.onTables, Cond.keeps, Cond.steady])) hini)
  obtain ⟨hx, hb, hml, ho, -⟩ := S
  obtain ⟨-, ⟨cellB, hcB, hoB, hclB⟩, hPc⟩ := hp
  intro T hT X
  rcases vx_callVX X hx (C := C) (hh := hh) (bytes := bytes) (maxL := maxL) (ret := ret) ho hl hin hse hcode hy hK (by rw [hT]; exact hcB) hoB hclB hg (hsize.trans hml.symm) (argsL := As) (rest := rest) (fun sig h => hn.trans (hlen sig h)) hstack hW (by rw [hb]; exact hdg)
    (fun vm₁ hW₁ => ⟨hf.1, hf.2, hPc (T.setVm vm₁) hT hW₁⟩) with ⟨v, vm₁, ⟨U', l2, c2, s2⟩, hW₁, X', ⟨g', mk, t, L, e1, e2, hq, h1, hL, h2, h3⟩, st⟩ | ⟨q, vm₁, ⟨U', l2, c2, s2⟩, hW₁, X', ⟨g', mk, t, L, E, ce, e1, e2, hq, hce, hcv, hcl, h1, hL, h2, h3⟩, st⟩
  · dsimp only [Pt.U, Pt.locs, Pt.cells, Pt.slots] at X' e1 e2 h1 h2 h3 st
    subst h1; subst h2; subst h3
    exact Or.inl ⟨v, (T.setVm vm₁).calling g' mk (Value.ref b :: As).toArray, t, U', L, hT, X', hL, e1, e2, hq, st⟩
  · dsimp only [Pt.U, Pt.locs, Pt.cells, Pt.slots] at X' e1 e2 h1 h2 h3 st hcl
    subst h1; subst h2; subst h3
    exact Or.inr ⟨q, (T.setVm vm₁).calling g' mk (Value.ref b :: As).toArray, t, U', L, E, ce, hT, X', hL, e1, e2, hq, hce, hcv, vx_cls hW₁ hcl, st⟩
theorem vx_runSX {hh : List (Nat × Nat × Nat × Nat)} (S : CallFix p m c cc nL s args Ts own) (hM : vx_Met l y ws rm Pc Qc XC mc ms free) (cw : vx_CSW R s args own index y bytes maxL ret hh ws rm mc ms n) (hp : PreS s H Pc As)
    (hg : g.method = m) (hn : As.length = n) (hsize : g.locals.size = nL) (hstack : g.stack = As.reverse ++ rest) (hW : 2 * g.monitorRoom + (rest.map fun v => v.category).sum ≤ 8) (hdg : decode cc g.pc = .ok (.invokestatic index, 3)) (hf : cells + mc ≤ R.cells ∧ slots + ms ≤ R.slots) :
    vx_Run p l e R s m args below meth c H locs cells slots mc ms g rest (Qc As.toArray) XC free := by
  obtain ⟨⟨hrc, hrs, hfr, hlo, hws, hcw⟩, hcode, hini, hy, hlen, hl, hstt⟩ := cw
  have hK : vx_Back l R p e below s args y 3 8 (PreOf R mc ms Pc) (PostOf Qc mc ms free) (vx_Post XC mc ms free) := vx_backW (hh := hh) (bytes := bytes) (maxL := maxL) (ret := ret) hM hp.1 hrc hrs hfr hlo hws hcw (fun a' U hW => word_at hW (Or.inl (by first | rfl | simp [Cond.onTables, Cond.keeps, Cond.steady])) hini)
  obtain ⟨hx, hb, hml, ho, -⟩ := S
  intro T hT X
  rcases vx_callSX X hx (hh := hh) (bytes := bytes) (maxL := maxL) (ret := ret) ho hl hstt hini hcode hy hK hg (hsize.trans hml.symm) (argsL := As) (rest := rest) (fun sig h => hn.trans (hlen sig h)) hstack hW (by rw [hb]; exact hdg)
    (fun vm₁ hW₁ => ⟨hf.1, hf.2, hp.2 (T.setVm vm₁) hT hW₁⟩) with ⟨v, vm₁, ⟨U', l2, c2, s2⟩, hW₁, X', ⟨g', mk, t, L, e1, e2, hq, h1, hL, h2, h3⟩, st⟩ | ⟨q, vm₁, ⟨U', l2, c2, s2⟩, hW₁, X', ⟨g', mk, t, L, E, ce, e1, e2, hq, hce, hcv, hcl, h1, hL, h2, h3⟩, st⟩
  · dsimp only [Pt.U, Pt.locs, Pt.cells, Pt.slots] at X' e1 e2 h1 h2 h3 st
    subst h1; subst h2; subst h3
    exact Or.inl ⟨v, (T.setVm vm₁).calling g' mk As.toArray, t, U', L, hT, X', hL, e1, e2, hq, st⟩
  · dsimp only [Pt.U, Pt.locs, Pt.cells, Pt.slots] at X' e1 e2 h1 h2 h3 st hcl
    subst h1; subst h2; subst h3
    exact Or.inr ⟨q, (T.setVm vm₁).calling g' mk As.toArray, t, U', L, E, ce, hT, X', hL, e1, e2, hq, hce, hcv, vx_cls hW₁ hcl, st⟩
end
end VXH
theorem vx_ofWH {l : Launch} {y : MethodName} {ws ws' : List Cond} {rm : Room} {Pc : Array Value → State → Prop} {Qc : Array Value → State → Outcome → State → Prop} {XC : String → State → State → Prop} {mc ms : Nat} {free : Addr → Prop} {cc : ByteArray} {maxL : Nat} {ret : Option FieldType} {hh : List (Nat × Nat × Nat × Nat)}
    (hy : plainName y.cls = true) (hw : ws = Cond.codeWith y cc maxL ret hh :: ws')
    (body : ∀ p e s m args below meth c s₁, BodyLoose p l y (headSpec ws rm) cc maxL ret e s m args below meth c s₁ → c.maxLocals = maxL → Pc args s →
      W p l e (headSpec ws rm).room s m args below meth c s.heap [] 0 0 (vx_MQ below Qc XC args s mc ms free) (entryFrame m args maxL)) : vx_Met l y ws rm Pc Qc XC mc ms free := by
  refine MetFree.of_bodyS (code := cc) (maxLocals := maxL) (ret := ret) hy ?_ ?_
  · intro args s m h hn
    obtain ⟨m9, meth, c, hn9, h1, h2, h3, h4, -, h5, h6, -⟩ := Cond.codeWith_spec (atoms_spec (ws := ws) h _ (by rw [hw]; exact List.mem_cons_self))
    cases hn.symm.trans hn9
    exact ⟨meth, c, h1, h2, h3, h4, h5, h6⟩
  · intro p e s m args below meth c s₁ B hml hP _
    have hh0 : s₁.heap = s.heap := by rw [B.state]; rfl
    obtain ⟨t, a1, o, b1, b2, b3⟩ := body p e s m args below meth c s₁ B hml hP s₁ hh0 (Stand.of_body B)
    exact ⟨t, o, a1, b1, b2, b3⟩
/-! ===== END ===== -/
end
section
def RX0 : String := "DealDoubts$ActionText"
def TX0 : u_T := fun k => match k with
  | 0 => ("DealDoubts$ActionText", "signs", "[I", true)
  | _ => ("DealDoubts$ActionText", "length", "I", false)
def tyX0 : Nat → FieldType := fun k => match k with
  | 0 => .array .int
  | _ => .int
abbrev wsX00 : List Cond := u_ws RX0 TX0 2
theorem nmX0 : ∀ a, a < 2 → ∀ b, b < 2 → a ≠ b → (TX0 a).2.1 ≠ (TX0 b).2.1 := by decide +kernel
theorem tyX0_ok : ∀ k, k < 2 → parseFieldDescriptor (TX0 k).2.2.1 = some (tyX0 k) := by decide +kernel
abbrev cX0_init : ByteArray := prog_2_method_1_code
def yX0_init : MethodName := ⟨RX0, "<init>", "()V"⟩
abbrev cX0_size : ByteArray := prog_2_method_2_code
def yX0_size : MethodName := ⟨RX0, "size", "()I"⟩
abbrev cX0_isFull : ByteArray := prog_2_method_3_code
def yX0_isFull : MethodName := ⟨RX0, "isFull", "()Z"⟩
abbrev cX0_add : ByteArray := prog_2_method_4_code
def yX0_add : MethodName := ⟨RX0, "add", "(I)I"⟩
abbrev cX0_clear : ByteArray := prog_2_method_5_code
def yX0_clear : MethodName := ⟨RX0, "clear", "()I"⟩
abbrev cX0_signAt : ByteArray := prog_2_method_6_code
def yX0_signAt : MethodName := ⟨RX0, "signAt", "(I)I"⟩
abbrev cX0_digitAt : ByteArray := prog_2_method_7_code
def yX0_digitAt : MethodName := ⟨RX0, "digitAt", "(I)I"⟩
abbrev cX0_numberIn : ByteArray := prog_2_method_8_code
def yX0_numberIn : MethodName := ⟨RX0, "numberIn", "(II)I"⟩
abbrev cX0_isActionEnd : ByteArray := prog_2_method_9_code
def yX0_isActionEnd : MethodName := ⟨RX0, "isActionEnd", "(I)Z"⟩
abbrev cX0_errorIndex : ByteArray := prog_2_method_10_code
def yX0_errorIndex : MethodName := ⟨RX0, "errorIndex", "()I"⟩
abbrev cX0_isComplete : ByteArray := prog_2_method_11_code
def yX0_isComplete : MethodName := ⟨RX0, "isComplete", "()Z"⟩
abbrev cX0_phaseAfter : ByteArray := prog_2_method_12_code
def yX0_phaseAfter : MethodName := ⟨RX0, "phaseAfter", "(III)I"⟩
abbrev cX0_phaseAfterKind : ByteArray := prog_2_method_13_code
def yX0_phaseAfterKind : MethodName := ⟨RX0, "phaseAfterKind", "(I)I"⟩
abbrev cX0_phaseAfterFirstDigit : ByteArray := prog_2_method_14_code
def yX0_phaseAfterFirstDigit : MethodName := ⟨RX0, "phaseAfterFirstDigit", "(I)I"⟩
abbrev cX0_phaseAfterAction : ByteArray := prog_2_method_15_code
def yX0_phaseAfterAction : MethodName := ⟨RX0, "phaseAfterAction", "(I)I"⟩
abbrev cX0_isIn : ByteArray := prog_2_method_16_code
def yX0_isIn : MethodName := ⟨RX0, "isIn", "(III)Z"⟩
def RX1 : String := "DealDoubts$History"
def TX1 : u_T := fun k => match k with
  | 0 => ("DealDoubts$History", "saved", "[LDealDoubts$Net;", true)
  | _ => ("DealDoubts$History", "count", "I", false)
def tyX1 : Nat → FieldType := fun k => match k with
  | 0 => .array (.object "DealDoubts$Net")
  | _ => .int
abbrev wsX10 : List Cond := u_ws RX1 TX1 2
theorem nmX1 : ∀ a, a < 2 → ∀ b, b < 2 → a ≠ b → (TX1 a).2.1 ≠ (TX1 b).2.1 := by decide +kernel
theorem tyX1_ok : ∀ k, k < 2 → parseFieldDescriptor (TX1 k).2.2.1 = some (tyX1 k) := by decide +kernel
abbrev cX1_init : ByteArray := prog_3_method_1_code
def yX1_init : MethodName := ⟨RX1, "<init>", "()V"⟩
abbrev cX1_size : ByteArray := prog_3_method_2_code
def yX1_size : MethodName := ⟨RX1, "size", "()I"⟩
abbrev cX1_save : ByteArray := prog_3_method_3_code
def yX1_save : MethodName := ⟨RX1, "save", "(LDealDoubts$Net;)V"⟩
abbrev cX1_discardOldest : ByteArray := prog_3_method_4_code
def yX1_discardOldest : MethodName := ⟨RX1, "discardOldest", "()V"⟩
abbrev cX1_restore : ByteArray := prog_3_method_5_code
def yX1_restore : MethodName := ⟨RX1, "restore", "(LDealDoubts$Net;)V"⟩
def RX2 : String := "DealDoubts$Net"
def TX2 : u_T := fun k => match k with
  | 0 => ("DealDoubts$Net", "dealCount", "I", false)
  | 1 => ("DealDoubts$Net", "sitesUp", "I", false)
  | 2 => ("DealDoubts$Net", "questionCount", "I", false)
  | 3 => ("DealDoubts$Net", "freshPatience", "I", false)
  | 4 => ("DealDoubts$Net", "leaders", "[I", true)
  | 5 => ("DealDoubts$Net", "items", "[I", true)
  | 6 => ("DealDoubts$Net", "decisions", "[I", true)
  | 7 => ("DealDoubts$Net", "states", "[I", true)
  | 8 => ("DealDoubts$Net", "patiences", "[I", true)
  | 9 => ("DealDoubts$Net", "logLengths", "[I", true)
  | _ => ("DealDoubts$Net", "logs", "[I", true)
def tyX2 : Nat → FieldType := fun k => match k with
  | 0 => .int
  | 1 => .int
  | 2 => .int
  | 3 => .int
  | 4 => .array .int
  | 5 => .array .int
  | 6 => .array .int
  | 7 => .array .int
  | 8 => .array .int
  | 9 => .array .int
  | _ => .array .int
abbrev wsX20 : List Cond := u_ws RX2 TX2 11
theorem nmX2 : ∀ a, a < 11 → ∀ b, b < 11 → a ≠ b → (TX2 a).2.1 ≠ (TX2 b).2.1 := by decide +kernel
theorem tyX2_ok : ∀ k, k < 11 → parseFieldDescriptor (TX2 k).2.2.1 = some (tyX2 k) := by decide +kernel
abbrev cX2_init : ByteArray := prog_4_method_1_code
def yX2_init : MethodName := ⟨RX2, "<init>", "()V"⟩
abbrev cX2_copyFrom : ByteArray := prog_4_method_2_code
def yX2_copyFrom : MethodName := ⟨RX2, "copyFrom", "(LDealDoubts$Net;)V"⟩
abbrev cX2_copyRow : ByteArray := prog_4_method_3_code
def yX2_copyRow : MethodName := ⟨RX2, "copyRow", "([I[I)V"⟩
abbrev cX2_dealCount : ByteArray := prog_4_method_4_code
def yX2_dealCount : MethodName := ⟨RX2, "dealCount", "()I"⟩
abbrev cX2_questionCount : ByteArray := prog_4_method_5_code
def yX2_questionCount : MethodName := ⟨RX2, "questionCount", "()I"⟩
abbrev cX2_hasDeal : ByteArray := prog_4_method_6_code
def yX2_hasDeal : MethodName := ⟨RX2, "hasDeal", "(I)Z"⟩
abbrev cX2_isAwake : ByteArray := prog_4_method_7_code
def yX2_isAwake : MethodName := ⟨RX2, "isAwake", "(I)Z"⟩
abbrev cX2_leaderOf : ByteArray := prog_4_method_8_code
def yX2_leaderOf : MethodName := ⟨RX2, "leaderOf", "(I)I"⟩
abbrev cX2_decisionOf : ByteArray := prog_4_method_9_code
def yX2_decisionOf : MethodName := ⟨RX2, "decisionOf", "(I)I"⟩
abbrev cX2_stateOf : ByteArray := prog_4_method_10_code
def yX2_stateOf : MethodName := ⟨RX2, "stateOf", "(II)I"⟩
abbrev cX2_patienceOf : ByteArray := prog_4_method_11_code
def yX2_patienceOf : MethodName := ⟨RX2, "patienceOf", "(II)I"⟩
abbrev cX2_hasEnded : ByteArray := prog_4_method_12_code
def yX2_hasEnded : MethodName := ⟨RX2, "hasEnded", "(II)Z"⟩
abbrev cX2_entriesOf : ByteArray := prog_4_method_13_code
def yX2_entriesOf : MethodName := ⟨RX2, "entriesOf", "(I)I"⟩
abbrev cX2_entryAt : ByteArray := prog_4_method_14_code
def yX2_entryAt : MethodName := ⟨RX2, "entryAt", "(II)I"⟩
abbrev cX2_itemsHeldBy : ByteArray := prog_4_method_15_code
def yX2_itemsHeldBy : MethodName := ⟨RX2, "itemsHeldBy", "(I)I"⟩
abbrev cX2_isEnd : ByteArray := prog_4_method_16_code
def yX2_isEnd : MethodName := ⟨RX2, "isEnd", "(I)Z"⟩
abbrev cX2_canBegin : ByteArray := prog_4_method_17_code
def yX2_canBegin : MethodName := ⟨RX2, "canBegin", "(II)Z"⟩
abbrev cX2_canVote : ByteArray := prog_4_method_18_code
def yX2_canVote : MethodName := ⟨RX2, "canVote", "(II)Z"⟩
abbrev cX2_canDecide : ByteArray := prog_4_method_19_code
def yX2_canDecide : MethodName := ⟨RX2, "canDecide", "(I)Z"⟩
abbrev cX2_canTell : ByteArray := prog_4_method_20_code
def yX2_canTell : MethodName := ⟨RX2, "canTell", "(II)Z"⟩
abbrev cX2_canAsk : ByteArray := prog_4_method_21_code
def yX2_canAsk : MethodName := ⟨RX2, "canAsk", "(III)Z"⟩
abbrev cX2_addDeal : ByteArray := prog_4_method_22_code
def yX2_addDeal : MethodName := ⟨RX2, "addDeal", "(III)I"⟩
abbrev cX2_castVote : ByteArray := prog_4_method_23_code
def yX2_castVote : MethodName := ⟨RX2, "castVote", "(IIZ)I"⟩
abbrev cX2_holdsForAnother : ByteArray := prog_4_method_24_code
def yX2_holdsForAnother : MethodName := ⟨RX2, "holdsForAnother", "(II)Z"⟩
abbrev cX2_makeDecision : ByteArray := prog_4_method_25_code
def yX2_makeDecision : MethodName := ⟨RX2, "makeDecision", "(I)I"⟩
abbrev cX2_areAllInDoubt : ByteArray := prog_4_method_26_code
def yX2_areAllInDoubt : MethodName := ⟨RX2, "areAllInDoubt", "(I)Z"⟩
abbrev cX2_tellMember : ByteArray := prog_4_method_27_code
def yX2_tellMember : MethodName := ⟨RX2, "tellMember", "(II)I"⟩
abbrev cX2_putQuestion : ByteArray := prog_4_method_28_code
def yX2_putQuestion : MethodName := ⟨RX2, "putQuestion", "(III)I"⟩
abbrev cX2_enter : ByteArray := prog_4_method_29_code
def yX2_enter : MethodName := ⟨RX2, "enter", "(III)V"⟩
abbrev cX2_settle : ByteArray := prog_4_method_30_code
def yX2_settle : MethodName := ⟨RX2, "settle", "(II)V"⟩
abbrev cX2_write : ByteArray := prog_4_method_31_code
def yX2_write : MethodName := ⟨RX2, "write", "(II)V"⟩
abbrev cX2_silence : ByteArray := prog_4_method_32_code
def yX2_silence : MethodName := ⟨RX2, "silence", "(I)I"⟩
abbrev cX2_wake : ByteArray := prog_4_method_33_code
def yX2_wake : MethodName := ⟨RX2, "wake", "(I)I"⟩
abbrev cX2_letPass : ByteArray := prog_4_method_34_code
def yX2_letPass : MethodName := ⟨RX2, "letPass", "(I)I"⟩
abbrev cX2_tickDeal : ByteArray := prog_4_method_35_code
def yX2_tickDeal : MethodName := ⟨RX2, "tickDeal", "(I)V"⟩
abbrev cX2_losesPatience : ByteArray := prog_4_method_36_code
def yX2_losesPatience : MethodName := ⟨RX2, "losesPatience", "(II)Z"⟩
abbrev cX2_changePatience : ByteArray := prog_4_method_37_code
def yX2_changePatience : MethodName := ⟨RX2, "changePatience", "(I)I"⟩
abbrev cX2_countOpen : ByteArray := prog_4_method_38_code
def yX2_countOpen : MethodName := ⟨RX2, "countOpen", "()I"⟩
abbrev cX2_isOpen : ByteArray := prog_4_method_39_code
def yX2_isOpen : MethodName := ⟨RX2, "isOpen", "(I)Z"⟩
abbrev cX2_countStuck : ByteArray := prog_4_method_40_code
def yX2_countStuck : MethodName := ⟨RX2, "countStuck", "()I"⟩
abbrev cX2_isStuck : ByteArray := prog_4_method_41_code
def yX2_isStuck : MethodName := ⟨RX2, "isStuck", "(I)Z"⟩
abbrev cX2_countMembers : ByteArray := prog_4_method_42_code
def yX2_countMembers : MethodName := ⟨RX2, "countMembers", "()I"⟩
abbrev cX2_countInState : ByteArray := prog_4_method_43_code
def yX2_countInState : MethodName := ⟨RX2, "countInState", "(I)I"⟩
abbrev cX2_reasonAgainstYes : ByteArray := prog_4_method_44_code
def yX2_reasonAgainstYes : MethodName := ⟨RX2, "reasonAgainstYes", "(II)I"⟩
abbrev cX2_helperFor : ByteArray := prog_4_method_45_code
def yX2_helperFor : MethodName := ⟨RX2, "helperFor", "(II)I"⟩
abbrev cX2_isAnswer : ByteArray := prog_4_method_46_code
def yX2_isAnswer : MethodName := ⟨RX2, "isAnswer", "(I)Z"⟩
abbrev cX2_hash : ByteArray := prog_4_method_47_code
def yX2_hash : MethodName := ⟨RX2, "hash", "()J"⟩
abbrev cX2_hashSite : ByteArray := prog_4_method_48_code
def yX2_hashSite : MethodName := ⟨RX2, "hashSite", "(JI)J"⟩
abbrev cX2_hashDeal : ByteArray := prog_4_method_49_code
def yX2_hashDeal : MethodName := ⟨RX2, "hashDeal", "(JI)J"⟩
def RX3 : String := "DealDoubts"
def TX3 : u_T := fun k => match k with
  | 0 => ("DealDoubts", "net", "LDealDoubts$Net;", true)
  | 1 => ("DealDoubts", "forecast", "LDealDoubts$Net;", true)
  | 2 => ("DealDoubts", "history", "LDealDoubts$History;", true)
  | _ => ("DealDoubts", "text", "LDealDoubts$ActionText;", true)
def tyX3 : Nat → FieldType := fun k => match k with
  | 0 => .object "DealDoubts$Net"
  | 1 => .object "DealDoubts$Net"
  | 2 => .object "DealDoubts$History"
  | _ => .object "DealDoubts$ActionText"
abbrev wsX30 : List Cond := u_ws RX3 TX3 4
theorem nmX3 : ∀ a, a < 4 → ∀ b, b < 4 → a ≠ b → (TX3 a).2.1 ≠ (TX3 b).2.1 := by decide +kernel
theorem tyX3_ok : ∀ k, k < 4 → parseFieldDescriptor (TX3 k).2.2.1 = some (tyX3 k) := by decide +kernel
abbrev cX3_init : ByteArray := prog_1_method_1_code
def yX3_init : MethodName := ⟨RX3, "<init>", "()V"⟩
abbrev cX3_begin : ByteArray := prog_1_method_2_code
def yX3_begin : MethodName := ⟨RX3, "begin", "(III)I"⟩
abbrev cX3_vote : ByteArray := prog_1_method_3_code
def yX3_vote : MethodName := ⟨RX3, "vote", "(IIZ)I"⟩
abbrev cX3_decide : ByteArray := prog_1_method_4_code
def yX3_decide : MethodName := ⟨RX3, "decide", "(I)I"⟩
abbrev cX3_tell : ByteArray := prog_1_method_5_code
def yX3_tell : MethodName := ⟨RX3, "tell", "(II)I"⟩
abbrev cX3_ask : ByteArray := prog_1_method_6_code
def yX3_ask : MethodName := ⟨RX3, "ask", "(III)I"⟩
abbrev cX3_fallSilent : ByteArray := prog_1_method_7_code
def yX3_fallSilent : MethodName := ⟨RX3, "fallSilent", "(I)I"⟩
abbrev cX3_comeBack : ByteArray := prog_1_method_8_code
def yX3_comeBack : MethodName := ⟨RX3, "comeBack", "(I)I"⟩
abbrev cX3_pass : ByteArray := prog_1_method_9_code
def yX3_pass : MethodName := ⟨RX3, "pass", "(I)I"⟩
abbrev cX3_setPatience : ByteArray := prog_1_method_10_code
def yX3_setPatience : MethodName := ⟨RX3, "setPatience", "(I)I"⟩
abbrev cX3_deals : ByteArray := prog_1_method_11_code
def yX3_deals : MethodName := ⟨RX3, "deals", "()I"⟩
abbrev cX3_isUp : ByteArray := prog_1_method_12_code
def yX3_isUp : MethodName := ⟨RX3, "isUp", "(I)Z"⟩
abbrev cX3_state : ByteArray := prog_1_method_13_code
def yX3_state : MethodName := ⟨RX3, "state", "(II)I"⟩
abbrev cX3_decision : ByteArray := prog_1_method_14_code
def yX3_decision : MethodName := ⟨RX3, "decision", "(I)I"⟩
abbrev cX3_leader : ByteArray := prog_1_method_15_code
def yX3_leader : MethodName := ⟨RX3, "leader", "(I)I"⟩
abbrev cX3_patience : ByteArray := prog_1_method_16_code
def yX3_patience : MethodName := ⟨RX3, "patience", "(II)I"⟩
abbrev cX3_open : ByteArray := prog_1_method_17_code
def yX3_open : MethodName := ⟨RX3, "open", "()I"⟩
abbrev cX3_stuck : ByteArray := prog_1_method_18_code
def yX3_stuck : MethodName := ⟨RX3, "stuck", "()I"⟩
abbrev cX3_logLength : ByteArray := prog_1_method_19_code
def yX3_logLength : MethodName := ⟨RX3, "logLength", "(I)I"⟩
abbrev cX3_log : ByteArray := prog_1_method_20_code
def yX3_log : MethodName := ⟨RX3, "log", "(II)I"⟩
abbrev cX3_held : ByteArray := prog_1_method_21_code
def yX3_held : MethodName := ⟨RX3, "held", "(I)I"⟩
abbrev cX3_asked : ByteArray := prog_1_method_22_code
def yX3_asked : MethodName := ⟨RX3, "asked", "()I"⟩
abbrev cX3_doubtShare : ByteArray := prog_1_method_23_code
def yX3_doubtShare : MethodName := ⟨RX3, "doubtShare", "()D"⟩
abbrev cX3_reason : ByteArray := prog_1_method_24_code
def yX3_reason : MethodName := ⟨RX3, "reason", "(II)I"⟩
abbrev cX3_helper : ByteArray := prog_1_method_25_code
def yX3_helper : MethodName := ⟨RX3, "helper", "(II)I"⟩
abbrev cX3_ticksToEnd : ByteArray := prog_1_method_26_code
def yX3_ticksToEnd : MethodName := ⟨RX3, "ticksToEnd", "(II)I"⟩
abbrev cX3_append : ByteArray := prog_1_method_27_code
def yX3_append : MethodName := ⟨RX3, "append", "(I)I"⟩
abbrev cX3_clearText : ByteArray := prog_1_method_28_code
def yX3_clearText : MethodName := ⟨RX3, "clearText", "()I"⟩
abbrev cX3_firstError : ByteArray := prog_1_method_29_code
def yX3_firstError : MethodName := ⟨RX3, "firstError", "()I"⟩
abbrev cX3_run : ByteArray := prog_1_method_30_code
def yX3_run : MethodName := ⟨RX3, "run", "()I"⟩
abbrev cX3_undo : ByteArray := prog_1_method_31_code
def yX3_undo : MethodName := ⟨RX3, "undo", "()I"⟩
abbrev cX3_savedStates : ByteArray := prog_1_method_32_code
def yX3_savedStates : MethodName := ⟨RX3, "savedStates", "()I"⟩
abbrev cX3_digest : ByteArray := prog_1_method_33_code
def yX3_digest : MethodName := ⟨RX3, "digest", "()J"⟩
abbrev cX3_perform : ByteArray := prog_1_method_34_code
def yX3_perform : MethodName := ⟨RX3, "perform", "(II)I"⟩
abbrev cX3_checkDeal : ByteArray := prog_1_method_35_code
def yX3_checkDeal : MethodName := ⟨RX3, "checkDeal", "(I)V"⟩
abbrev cX3_checkDealAndSite : ByteArray := prog_1_method_36_code
def yX3_checkDealAndSite : MethodName := ⟨RX3, "checkDealAndSite", "(II)V"⟩
abbrev cX3_checkSite : ByteArray := prog_1_method_37_code
def yX3_checkSite : MethodName := ⟨RX3, "checkSite", "(I)V"⟩
abbrev cX3_isSite : ByteArray := prog_1_method_38_code
def yX3_isSite : MethodName := ⟨RX3, "isSite", "(I)Z"⟩
def RX4 : String := "DealDoubtsModel"
def TX4 : u_T := fun k => match k with
  | 0 => ("DealDoubtsModel", "thrown", "I", false)
  | 1 => ("DealDoubtsModel", "s", "[I", true)
  | 2 => ("DealDoubtsModel", "saved", "I", false)
  | 3 => ("DealDoubtsModel", "text", "[I", true)
  | 4 => ("DealDoubtsModel", "length", "I", false)
  | 5 => ("DealDoubtsModel", "at", "I", false)
  | 6 => ("DealDoubtsModel", "letter", "I", false)
  | 7 => ("DealDoubtsModel", "first", "I", false)
  | 8 => ("DealDoubtsModel", "second", "I", false)
  | 9 => ("DealDoubtsModel", "third", "I", false)
  | _ => ("DealDoubtsModel", "hash", "J", false)
def tyX4 : Nat → FieldType := fun k => match k with
  | 0 => .int
  | 1 => .array .int
  | 2 => .int
  | 3 => .array .int
  | 4 => .int
  | 5 => .int
  | 6 => .int
  | 7 => .int
  | 8 => .int
  | 9 => .int
  | _ => .long
abbrev wsX40 : List Cond := u_ws RX4 TX4 11
theorem nmX4 : ∀ a, a < 11 → ∀ b, b < 11 → a ≠ b → (TX4 a).2.1 ≠ (TX4 b).2.1 := by decide +kernel
theorem tyX4_ok : ∀ k, k < 11 → parseFieldDescriptor (TX4 k).2.2.1 = some (tyX4 k) := by decide +kernel
abbrev cX4_init : ByteArray := prog_6_method_1_code
def yX4_init : MethodName := ⟨RX4, "<init>", "()V"⟩
abbrev cX4_thrown : ByteArray := prog_6_method_2_code
def yX4_thrown : MethodName := ⟨RX4, "thrown", "()I"⟩
abbrev cX4_in : ByteArray := prog_6_method_3_code
def yX4_in : MethodName := ⟨RX4, "in", "(III)Z"⟩
abbrev cX4_holds : ByteArray := prog_6_method_4_code
def yX4_holds : MethodName := ⟨RX4, "holds", "(I)Z"⟩
abbrev cX4_isSite : ByteArray := prog_6_method_5_code
def yX4_isSite : MethodName := ⟨RX4, "isSite", "(I)Z"⟩
abbrev cX4_isDeal : ByteArray := prog_6_method_6_code
def yX4_isDeal : MethodName := ⟨RX4, "isDeal", "(I)Z"⟩
abbrev cX4_of : ByteArray := prog_6_method_7_code
def yX4_of : MethodName := ⟨RX4, "of", "(III)I"⟩
abbrev cX4_isUpNow : ByteArray := prog_6_method_8_code
def yX4_isUpNow : MethodName := ⟨RX4, "isUpNow", "(II)Z"⟩
abbrev cX4_isMember : ByteArray := prog_6_method_9_code
def yX4_isMember : MethodName := ⟨RX4, "isMember", "(III)Z"⟩
abbrev cX4_stateOf : ByteArray := prog_6_method_10_code
def yX4_stateOf : MethodName := ⟨RX4, "stateOf", "(III)I"⟩
abbrev cX4_logs : ByteArray := prog_6_method_11_code
def yX4_logs : MethodName := ⟨RX4, "logs", "(III)V"⟩
abbrev cX4_gets : ByteArray := prog_6_method_12_code
def yX4_gets : MethodName := ⟨RX4, "gets", "(IIII)V"⟩
abbrev cX4_decides : ByteArray := prog_6_method_13_code
def yX4_decides : MethodName := ⟨RX4, "decides", "(III)V"⟩
abbrev cX4_heldBy : ByteArray := prog_6_method_14_code
def yX4_heldBy : MethodName := ⟨RX4, "heldBy", "(II)I"⟩
abbrev cX4_isHeld : ByteArray := prog_6_method_15_code
def yX4_isHeld : MethodName := ⟨RX4, "isHeld", "(III)Z"⟩
abbrev cX4_votes : ByteArray := prog_6_method_16_code
def yX4_votes : MethodName := ⟨RX4, "votes", "(IIZ)V"⟩
abbrev cX4_verdict : ByteArray := prog_6_method_17_code
def yX4_verdict : MethodName := ⟨RX4, "verdict", "(I)I"⟩
abbrev cX4_tells : ByteArray := prog_6_method_18_code
def yX4_tells : MethodName := ⟨RX4, "tells", "(III)V"⟩
abbrev cX4_helps : ByteArray := prog_6_method_19_code
def yX4_helps : MethodName := ⟨RX4, "helps", "(III)Z"⟩
abbrev cX4_asks : ByteArray := prog_6_method_20_code
def yX4_asks : MethodName := ⟨RX4, "asks", "(IIII)V"⟩
abbrev cX4_asksAll : ByteArray := prog_6_method_21_code
def yX4_asksAll : MethodName := ⟨RX4, "asksAll", "(III)V"⟩
abbrev cX4_ticks : ByteArray := prog_6_method_22_code
def yX4_ticks : MethodName := ⟨RX4, "ticks", "(I)V"⟩
abbrev cX4_ended : ByteArray := prog_6_method_23_code
def yX4_ended : MethodName := ⟨RX4, "ended", "(I)I"⟩
abbrev cX4_passes : ByteArray := prog_6_method_24_code
def yX4_passes : MethodName := ⟨RX4, "passes", "(I)I"⟩
abbrev cX4_inDoubt : ByteArray := prog_6_method_25_code
def yX4_inDoubt : MethodName := ⟨RX4, "inDoubt", "(I)I"⟩
abbrev cX4_comes : ByteArray := prog_6_method_26_code
def yX4_comes : MethodName := ⟨RX4, "comes", "(I)I"⟩
abbrev cX4_canVote : ByteArray := prog_6_method_27_code
def yX4_canVote : MethodName := ⟨RX4, "canVote", "(II)Z"⟩
abbrev cX4_canDecide : ByteArray := prog_6_method_28_code
def yX4_canDecide : MethodName := ⟨RX4, "canDecide", "(I)Z"⟩
abbrev cX4_canTell : ByteArray := prog_6_method_29_code
def yX4_canTell : MethodName := ⟨RX4, "canTell", "(II)Z"⟩
abbrev cX4_canAsk : ByteArray := prog_6_method_30_code
def yX4_canAsk : MethodName := ⟨RX4, "canAsk", "(III)Z"⟩
abbrev cX4_copies : ByteArray := prog_6_method_31_code
def yX4_copies : MethodName := ⟨RX4, "copies", "(II)V"⟩
abbrev cX4_save : ByteArray := prog_6_method_32_code
def yX4_save : MethodName := ⟨RX4, "save", "()V"⟩
abbrev cX4_bits : ByteArray := prog_6_method_33_code
def yX4_bits : MethodName := ⟨RX4, "bits", "(I)I"⟩
abbrev cX4_begin : ByteArray := prog_6_method_34_code
def yX4_begin : MethodName := ⟨RX4, "begin", "(III)I"⟩
abbrev cX4_vote : ByteArray := prog_6_method_35_code
def yX4_vote : MethodName := ⟨RX4, "vote", "(IIZ)I"⟩
abbrev cX4_decide : ByteArray := prog_6_method_36_code
def yX4_decide : MethodName := ⟨RX4, "decide", "(I)I"⟩
abbrev cX4_tell : ByteArray := prog_6_method_37_code
def yX4_tell : MethodName := ⟨RX4, "tell", "(II)I"⟩
abbrev cX4_ask : ByteArray := prog_6_method_38_code
def yX4_ask : MethodName := ⟨RX4, "ask", "(III)I"⟩
abbrev cX4_fallSilent : ByteArray := prog_6_method_39_code
def yX4_fallSilent : MethodName := ⟨RX4, "fallSilent", "(I)I"⟩
abbrev cX4_comeBack : ByteArray := prog_6_method_40_code
def yX4_comeBack : MethodName := ⟨RX4, "comeBack", "(I)I"⟩
abbrev cX4_pass : ByteArray := prog_6_method_41_code
def yX4_pass : MethodName := ⟨RX4, "pass", "(I)I"⟩
abbrev cX4_setPatience : ByteArray := prog_6_method_42_code
def yX4_setPatience : MethodName := ⟨RX4, "setPatience", "(I)I"⟩
abbrev cX4_deals : ByteArray := prog_6_method_43_code
def yX4_deals : MethodName := ⟨RX4, "deals", "()I"⟩
abbrev cX4_isUp : ByteArray := prog_6_method_44_code
def yX4_isUp : MethodName := ⟨RX4, "isUp", "(I)Z"⟩
abbrev cX4_state : ByteArray := prog_6_method_45_code
def yX4_state : MethodName := ⟨RX4, "state", "(II)I"⟩
abbrev cX4_decision : ByteArray := prog_6_method_46_code
def yX4_decision : MethodName := ⟨RX4, "decision", "(I)I"⟩
abbrev cX4_leader : ByteArray := prog_6_method_47_code
def yX4_leader : MethodName := ⟨RX4, "leader", "(I)I"⟩
abbrev cX4_patienceOf : ByteArray := prog_6_method_48_code
def yX4_patienceOf : MethodName := ⟨RX4, "patienceOf", "(II)I"⟩
abbrev cX4_patience : ByteArray := prog_6_method_49_code
def yX4_patience : MethodName := ⟨RX4, "patience", "(II)I"⟩
abbrev cX4_openDeals : ByteArray := prog_6_method_50_code
def yX4_openDeals : MethodName := ⟨RX4, "openDeals", "()I"⟩
abbrev cX4_open : ByteArray := prog_6_method_51_code
def yX4_open : MethodName := ⟨RX4, "open", "()I"⟩
abbrev cX4_helperOf : ByteArray := prog_6_method_52_code
def yX4_helperOf : MethodName := ⟨RX4, "helperOf", "(II)I"⟩
abbrev cX4_stuckDeals : ByteArray := prog_6_method_53_code
def yX4_stuckDeals : MethodName := ⟨RX4, "stuckDeals", "()I"⟩
abbrev cX4_stuck : ByteArray := prog_6_method_54_code
def yX4_stuck : MethodName := ⟨RX4, "stuck", "()I"⟩
abbrev cX4_logLength : ByteArray := prog_6_method_55_code
def yX4_logLength : MethodName := ⟨RX4, "logLength", "(I)I"⟩
abbrev cX4_log : ByteArray := prog_6_method_56_code
def yX4_log : MethodName := ⟨RX4, "log", "(II)I"⟩
abbrev cX4_held : ByteArray := prog_6_method_57_code
def yX4_held : MethodName := ⟨RX4, "held", "(I)I"⟩
abbrev cX4_asked : ByteArray := prog_6_method_58_code
def yX4_asked : MethodName := ⟨RX4, "asked", "()I"⟩
abbrev cX4_doubtShare : ByteArray := prog_6_method_59_code
def yX4_doubtShare : MethodName := ⟨RX4, "doubtShare", "()D"⟩
abbrev cX4_reason : ByteArray := prog_6_method_60_code
def yX4_reason : MethodName := ⟨RX4, "reason", "(II)I"⟩
abbrev cX4_helper : ByteArray := prog_6_method_61_code
def yX4_helper : MethodName := ⟨RX4, "helper", "(II)I"⟩
abbrev cX4_ticksToEnd : ByteArray := prog_6_method_62_code
def yX4_ticksToEnd : MethodName := ⟨RX4, "ticksToEnd", "(II)I"⟩
abbrev cX4_append : ByteArray := prog_6_method_63_code
def yX4_append : MethodName := ⟨RX4, "append", "(I)I"⟩
abbrev cX4_clearText : ByteArray := prog_6_method_64_code
def yX4_clearText : MethodName := ⟨RX4, "clearText", "()I"⟩
abbrev cX4_sign : ByteArray := prog_6_method_65_code
def yX4_sign : MethodName := ⟨RX4, "sign", "()I"⟩
abbrev cX4_takes : ByteArray := prog_6_method_66_code
def yX4_takes : MethodName := ⟨RX4, "takes", "(I)Z"⟩
abbrev cX4_digit : ByteArray := prog_6_method_67_code
def yX4_digit : MethodName := ⟨RX4, "digit", "(I)I"⟩
abbrev cX4_readsTicks : ByteArray := prog_6_method_68_code
def yX4_readsTicks : MethodName := ⟨RX4, "readsTicks", "()Z"⟩
abbrev cX4_readsAction : ByteArray := prog_6_method_69_code
def yX4_readsAction : MethodName := ⟨RX4, "readsAction", "()Z"⟩
abbrev cX4_areActions : ByteArray := prog_6_method_70_code
def yX4_areActions : MethodName := ⟨RX4, "areActions", "()Z"⟩
abbrev cX4_firstError : ByteArray := prog_6_method_71_code
def yX4_firstError : MethodName := ⟨RX4, "firstError", "()I"⟩
abbrev cX4_can : ByteArray := prog_6_method_72_code
def yX4_can : MethodName := ⟨RX4, "can", "()Z"⟩
abbrev cX4_does : ByteArray := prog_6_method_73_code
def yX4_does : MethodName := ⟨RX4, "does", "()V"⟩
abbrev cX4_run : ByteArray := prog_6_method_74_code
def yX4_run : MethodName := ⟨RX4, "run", "()I"⟩
abbrev cX4_undo : ByteArray := prog_6_method_75_code
def yX4_undo : MethodName := ⟨RX4, "undo", "()I"⟩
abbrev cX4_savedStates : ByteArray := prog_6_method_76_code
def yX4_savedStates : MethodName := ⟨RX4, "savedStates", "()I"⟩
abbrev cX4_mix : ByteArray := prog_6_method_77_code
def yX4_mix : MethodName := ⟨RX4, "mix", "(J)V"⟩
abbrev cX4_digest : ByteArray := prog_6_method_78_code
def yX4_digest : MethodName := ⟨RX4, "digest", "()J"⟩
def RJ6 : String := "java/lang/Integer"
def TJ6 : u_T := fun k => match k with
  | _ => ("", "", "", false)
def tyJ6 : Nat → FieldType := fun k => match k with
  | _ => .int
abbrev wsJ60 : List Cond := u_ws RJ6 TJ6 0
theorem nmJ6 : ∀ a, a < 0 → ∀ b, b < 0 → a ≠ b → (TJ6 a).2.1 ≠ (TJ6 b).2.1 := by decide +kernel
theorem tyJ6_ok : ∀ k, k < 0 → parseFieldDescriptor (TJ6 k).2.2.1 = some (tyJ6 k) := by decide +kernel
abbrev cJ6_bitCount_0f7a4 : ByteArray := prog_11_method_49_code
def yJ6_bitCount_0f7a4 : MethodName := ⟨RJ6, "bitCount", "(I)I"⟩
def RJ9 : String := "java/lang/Math"
def TJ9 : u_T := fun k => match k with
  | _ => ("", "", "", false)
def tyJ9 : Nat → FieldType := fun k => match k with
  | _ => .int
abbrev wsJ90 : List Cond := u_ws RJ9 TJ9 0
theorem nmJ9 : ∀ a, a < 0 → ∀ b, b < 0 → a ≠ b → (TJ9 a).2.1 ≠ (TJ9 b).2.1 := by decide +kernel
theorem tyJ9_ok : ∀ k, k < 0 → parseFieldDescriptor (TJ9 k).2.2.1 = some (tyJ9 k) := by decide +kernel
abbrev cJ9_min_7cf53 : ByteArray := prog_12_method_69_code
def yJ9_min_7cf53 : MethodName := ⟨RJ9, "min", "(II)I"⟩
def RJ0 : String := "java/lang/String"
def TJ0 : u_T := fun k => match k with
  | _ => ("", "", "", false)
def tyJ0 : Nat → FieldType := fun k => match k with
  | _ => .int
abbrev wsJ00 : List Cond := u_ws RJ0 TJ0 0
theorem nmJ0 : ∀ a, a < 0 → ∀ b, b < 0 → a ≠ b → (TJ0 a).2.1 ≠ (TJ0 b).2.1 := by decide +kernel
theorem tyJ0_ok : ∀ k, k < 0 → parseFieldDescriptor (TJ0 k).2.2.1 = some (tyJ0 k) := by decide +kernel
def RJ10 : String := "java/lang/System"
def TJ10 : u_T := fun k => match k with
  | _ => ("", "", "", false)
def tyJ10 : Nat → FieldType := fun k => match k with
  | _ => .int
abbrev wsJ100 : List Cond := u_ws RJ10 TJ10 0
theorem nmJ10 : ∀ a, a < 0 → ∀ b, b < 0 → a ≠ b → (TJ10 a).2.1 ≠ (TJ10 b).2.1 := by decide +kernel
theorem tyJ10_ok : ∀ k, k < 0 → parseFieldDescriptor (TJ10 k).2.2.1 = some (tyJ10 k) := by decide +kernel
def RL : String := "DealDoubtsLaw"
abbrev cL_begin : ByteArray := method_3_code
def yL_begin : MethodName := ⟨RL, "begin", "(LDealDoubts;III[J)I"⟩
abbrev cL_vote : ByteArray := method_4_code
def yL_vote : MethodName := ⟨RL, "vote", "(LDealDoubts;IIZ[J)I"⟩
abbrev cL_decide : ByteArray := method_5_code
def yL_decide : MethodName := ⟨RL, "decide", "(LDealDoubts;I[J)I"⟩
abbrev cL_tell : ByteArray := method_6_code
def yL_tell : MethodName := ⟨RL, "tell", "(LDealDoubts;II[J)I"⟩
abbrev cL_ask : ByteArray := method_7_code
def yL_ask : MethodName := ⟨RL, "ask", "(LDealDoubts;III[J)I"⟩
abbrev cL_fallSilent : ByteArray := method_8_code
def yL_fallSilent : MethodName := ⟨RL, "fallSilent", "(LDealDoubts;I[J)I"⟩
abbrev cL_comeBack : ByteArray := method_9_code
def yL_comeBack : MethodName := ⟨RL, "comeBack", "(LDealDoubts;I[J)I"⟩
abbrev cL_pass : ByteArray := method_10_code
def yL_pass : MethodName := ⟨RL, "pass", "(LDealDoubts;I[J)I"⟩
abbrev cL_setPatience : ByteArray := method_11_code
def yL_setPatience : MethodName := ⟨RL, "setPatience", "(LDealDoubts;I[J)I"⟩
abbrev cL_isUp : ByteArray := method_12_code
def yL_isUp : MethodName := ⟨RL, "isUp", "(LDealDoubts;I[J)I"⟩
abbrev cL_state : ByteArray := method_13_code
def yL_state : MethodName := ⟨RL, "state", "(LDealDoubts;II[J)I"⟩
abbrev cL_decision : ByteArray := method_14_code
def yL_decision : MethodName := ⟨RL, "decision", "(LDealDoubts;I[J)I"⟩
abbrev cL_leader : ByteArray := method_15_code
def yL_leader : MethodName := ⟨RL, "leader", "(LDealDoubts;I[J)I"⟩
abbrev cL_patience : ByteArray := method_16_code
def yL_patience : MethodName := ⟨RL, "patience", "(LDealDoubts;II[J)I"⟩
abbrev cL_logLength : ByteArray := method_17_code
def yL_logLength : MethodName := ⟨RL, "logLength", "(LDealDoubts;I[J)I"⟩
abbrev cL_log : ByteArray := method_18_code
def yL_log : MethodName := ⟨RL, "log", "(LDealDoubts;II[J)I"⟩
abbrev cL_held : ByteArray := method_19_code
def yL_held : MethodName := ⟨RL, "held", "(LDealDoubts;I[J)I"⟩
abbrev cL_reason : ByteArray := method_20_code
def yL_reason : MethodName := ⟨RL, "reason", "(LDealDoubts;II[J)I"⟩
abbrev cL_helper : ByteArray := method_21_code
def yL_helper : MethodName := ⟨RL, "helper", "(LDealDoubts;II[J)I"⟩
abbrev cL_ticksToEnd : ByteArray := method_22_code
def yL_ticksToEnd : MethodName := ⟨RL, "ticksToEnd", "(LDealDoubts;II[J)I"⟩
abbrev cL_append : ByteArray := method_23_code
def yL_append : MethodName := ⟨RL, "append", "(LDealDoubts;I[J)I"⟩
abbrev cL_run : ByteArray := method_24_code
def yL_run : MethodName := ⟨RL, "run", "(LDealDoubts;[J)I"⟩
abbrev cL_undo : ByteArray := method_25_code
def yL_undo : MethodName := ⟨RL, "undo", "(LDealDoubts;[J)I"⟩
abbrev cL_law : ByteArray := code
def yL_law : MethodName := ⟨RL, "law", "([I)Z"⟩
abbrev vwCl : List vw_C := [(RX0, TX0, 2), (RX1, TX1, 2), (RX2, TX2, 11), (RX3, TX3, 4), (RX4, TX4, 11)]
end
section
theorem dX0_init_0 : decode cX0_init 0 = .ok (.aload_n 0, 1) := by decide +kernel
theorem dX0_init_1 : decode cX0_init 1 = .ok (.invokespecial 3, 3) := by decide +kernel
theorem dX0_init_4 : decode cX0_init 4 = .ok (.aload_n 0, 1) := by decide +kernel
theorem dX0_init_5 : decode cX0_init 5 = .ok (.bipush 60, 2) := by decide +kernel
theorem dX0_init_7 : decode cX0_init 7 = .ok (.newarray .int, 2) := by decide +kernel
theorem dX0_init_9 : decode cX0_init 9 = .ok (.putfield 9, 3) := by decide +kernel
theorem dX0_init_12 : decode cX0_init 12 = .ok (.aload_n 0, 1) := by decide +kernel
theorem dX0_init_13 : decode cX0_init 13 = .ok (.iconst 0, 1) := by decide +kernel
theorem dX0_init_14 : decode cX0_init 14 = .ok (.putfield 15, 3) := by decide +kernel
theorem dX0_init_17 : decode cX0_init 17 = .ok (.return_, 1) := by decide +kernel
theorem dX0_size_0 : decode cX0_size 0 = .ok (.aload_n 0, 1) := by decide +kernel
theorem dX0_size_1 : decode cX0_size 1 = .ok (.getfield 15, 3) := by decide +kernel
theorem dX0_size_4 : decode cX0_size 4 = .ok (.ireturn, 1) := by decide +kernel
theorem dX0_isFull_0 : decode cX0_isFull 0 = .ok (.aload_n 0, 1) := by decide +kernel
theorem dX0_isFull_1 : decode cX0_isFull 1 = .ok (.getfield 15, 3) := by decide +kernel
theorem dX0_isFull_4 : decode cX0_isFull 4 = .ok (.bipush 60, 2) := by decide +kernel
theorem dX0_isFull_6 : decode cX0_isFull 6 = .ok (.if_icmp .lt 7, 3) := by decide +kernel
theorem dX0_isFull_9 : decode cX0_isFull 9 = .ok (.iconst 1, 1) := by decide +kernel
theorem dX0_isFull_10 : decode cX0_isFull 10 = .ok (.goto 4, 3) := by decide +kernel
theorem dX0_isFull_13 : decode cX0_isFull 13 = .ok (.iconst 0, 1) := by decide +kernel
theorem dX0_isFull_14 : decode cX0_isFull 14 = .ok (.ireturn, 1) := by decide +kernel
theorem dX0_add_0 : decode cX0_add 0 = .ok (.aload_n 0, 1) := by decide +kernel
theorem dX0_add_1 : decode cX0_add 1 = .ok (.invokevirtual 19, 3) := by decide +kernel
theorem dX0_add_4 : decode cX0_add 4 = .ok (.ifCond .ne 23, 3) := by decide +kernel
theorem dX0_add_7 : decode cX0_add 7 = .ok (.aload_n 0, 1) := by decide +kernel
theorem dX0_add_8 : decode cX0_add 8 = .ok (.getfield 9, 3) := by decide +kernel
theorem dX0_add_11 : decode cX0_add 11 = .ok (.aload_n 0, 1) := by decide +kernel
theorem dX0_add_12 : decode cX0_add 12 = .ok (.getfield 15, 3) := by decide +kernel
theorem dX0_add_15 : decode cX0_add 15 = .ok (.iload_n 1, 1) := by decide +kernel
theorem dX0_add_16 : decode cX0_add 16 = .ok (.iastore, 1) := by decide +kernel
theorem dX0_add_17 : decode cX0_add 17 = .ok (.aload_n 0, 1) := by decide +kernel
theorem dX0_add_18 : decode cX0_add 18 = .ok (.dup, 1) := by decide +kernel
theorem dX0_add_19 : decode cX0_add 19 = .ok (.getfield 15, 3) := by decide +kernel
theorem dX0_add_22 : decode cX0_add 22 = .ok (.iconst 1, 1) := by decide +kernel
theorem dX0_add_23 : decode cX0_add 23 = .ok (.iadd, 1) := by decide +kernel
theorem dX0_add_24 : decode cX0_add 24 = .ok (.putfield 15, 3) := by decide +kernel
theorem dX0_add_27 : decode cX0_add 27 = .ok (.aload_n 0, 1) := by decide +kernel
theorem dX0_add_28 : decode cX0_add 28 = .ok (.getfield 15, 3) := by decide +kernel
theorem dX0_add_31 : decode cX0_add 31 = .ok (.ireturn, 1) := by decide +kernel
theorem dX0_clear_0 : decode cX0_clear 0 = .ok (.aload_n 0, 1) := by decide +kernel
theorem dX0_clear_1 : decode cX0_clear 1 = .ok (.getfield 15, 3) := by decide +kernel
theorem dX0_clear_4 : decode cX0_clear 4 = .ok (.istore_n 1, 1) := by decide +kernel
theorem dX0_clear_5 : decode cX0_clear 5 = .ok (.aload_n 0, 1) := by decide +kernel
theorem dX0_clear_6 : decode cX0_clear 6 = .ok (.iconst 0, 1) := by decide +kernel
theorem dX0_clear_7 : decode cX0_clear 7 = .ok (.putfield 15, 3) := by decide +kernel
theorem dX0_clear_10 : decode cX0_clear 10 = .ok (.iload_n 1, 1) := by decide +kernel
theorem dX0_clear_11 : decode cX0_clear 11 = .ok (.ireturn, 1) := by decide +kernel
theorem dX0_signAt_0 : decode cX0_signAt 0 = .ok (.iload_n 1, 1) := by decide +kernel
theorem dX0_signAt_1 : decode cX0_signAt 1 = .ok (.ifCond .lt 20, 3) := by decide +kernel
theorem dX0_signAt_4 : decode cX0_signAt 4 = .ok (.iload_n 1, 1) := by decide +kernel
theorem dX0_signAt_5 : decode cX0_signAt 5 = .ok (.aload_n 0, 1) := by decide +kernel
theorem dX0_signAt_6 : decode cX0_signAt 6 = .ok (.getfield 15, 3) := by decide +kernel
theorem dX0_signAt_9 : decode cX0_signAt 9 = .ok (.if_icmp .ge 12, 3) := by decide +kernel
theorem dX0_signAt_12 : decode cX0_signAt 12 = .ok (.aload_n 0, 1) := by decide +kernel
theorem dX0_signAt_13 : decode cX0_signAt 13 = .ok (.getfield 9, 3) := by decide +kernel
theorem dX0_signAt_16 : decode cX0_signAt 16 = .ok (.iload_n 1, 1) := by decide +kernel
theorem dX0_signAt_17 : decode cX0_signAt 17 = .ok (.iaload, 1) := by decide +kernel
theorem dX0_signAt_18 : decode cX0_signAt 18 = .ok (.goto 4, 3) := by decide +kernel
theorem dX0_signAt_21 : decode cX0_signAt 21 = .ok (.iconst 0, 1) := by decide +kernel
theorem dX0_signAt_22 : decode cX0_signAt 22 = .ok (.ireturn, 1) := by decide +kernel
theorem dX0_digitAt_0 : decode cX0_digitAt 0 = .ok (.aload_n 0, 1) := by decide +kernel
theorem dX0_digitAt_1 : decode cX0_digitAt 1 = .ok (.iload_n 1, 1) := by decide +kernel
theorem dX0_digitAt_2 : decode cX0_digitAt 2 = .ok (.invokevirtual 23, 3) := by decide +kernel
theorem dX0_digitAt_5 : decode cX0_digitAt 5 = .ok (.bipush 48, 2) := by decide +kernel
theorem dX0_digitAt_7 : decode cX0_digitAt 7 = .ok (.isub, 1) := by decide +kernel
theorem dX0_digitAt_8 : decode cX0_digitAt 8 = .ok (.ireturn, 1) := by decide +kernel
theorem dX0_numberIn_0 : decode cX0_numberIn 0 = .ok (.iconst 0, 1) := by decide +kernel
theorem dX0_numberIn_1 : decode cX0_numberIn 1 = .ok (.istore_n 3, 1) := by decide +kernel
theorem dX0_numberIn_2 : decode cX0_numberIn 2 = .ok (.iload_n 1, 1) := by decide +kernel
theorem dX0_numberIn_3 : decode cX0_numberIn 3 = .ok (.istore 4, 2) := by decide +kernel
theorem dX0_numberIn_5 : decode cX0_numberIn 5 = .ok (.iload 4, 2) := by decide +kernel
theorem dX0_numberIn_7 : decode cX0_numberIn 7 = .ok (.iload_n 2, 1) := by decide +kernel
theorem dX0_numberIn_8 : decode cX0_numberIn 8 = .ok (.if_icmp .ge 21, 3) := by decide +kernel
theorem dX0_numberIn_11 : decode cX0_numberIn 11 = .ok (.bipush 10, 2) := by decide +kernel
theorem dX0_numberIn_13 : decode cX0_numberIn 13 = .ok (.iload_n 3, 1) := by decide +kernel
theorem dX0_numberIn_14 : decode cX0_numberIn 14 = .ok (.imul, 1) := by decide +kernel
theorem dX0_numberIn_15 : decode cX0_numberIn 15 = .ok (.aload_n 0, 1) := by decide +kernel
theorem dX0_numberIn_16 : decode cX0_numberIn 16 = .ok (.iload 4, 2) := by decide +kernel
theorem dX0_numberIn_18 : decode cX0_numberIn 18 = .ok (.invokevirtual 27, 3) := by decide +kernel
theorem dX0_numberIn_21 : decode cX0_numberIn 21 = .ok (.iadd, 1) := by decide +kernel
theorem dX0_numberIn_22 : decode cX0_numberIn 22 = .ok (.istore_n 3, 1) := by decide +kernel
theorem dX0_numberIn_23 : decode cX0_numberIn 23 = .ok (.iinc 4 1, 3) := by decide +kernel
theorem dX0_numberIn_26 : decode cX0_numberIn 26 = .ok (.goto (-21), 3) := by decide +kernel
theorem dX0_numberIn_29 : decode cX0_numberIn 29 = .ok (.iload_n 3, 1) := by decide +kernel
theorem dX0_numberIn_30 : decode cX0_numberIn 30 = .ok (.ireturn, 1) := by decide +kernel
theorem dX0_isActionEnd_0 : decode cX0_isActionEnd 0 = .ok (.iload_n 1, 1) := by decide +kernel
theorem dX0_isActionEnd_1 : decode cX0_isActionEnd 1 = .ok (.aload_n 0, 1) := by decide +kernel
theorem dX0_isActionEnd_2 : decode cX0_isActionEnd 2 = .ok (.getfield 15, 3) := by decide +kernel
theorem dX0_isActionEnd_5 : decode cX0_isActionEnd 5 = .ok (.if_icmp .eq 13, 3) := by decide +kernel
theorem dX0_isActionEnd_8 : decode cX0_isActionEnd 8 = .ok (.aload_n 0, 1) := by decide +kernel
theorem dX0_isActionEnd_9 : decode cX0_isActionEnd 9 = .ok (.iload_n 1, 1) := by decide +kernel
theorem dX0_isActionEnd_10 : decode cX0_isActionEnd 10 = .ok (.invokevirtual 23, 3) := by decide +kernel
theorem dX0_isActionEnd_13 : decode cX0_isActionEnd 13 = .ok (.bipush 59, 2) := by decide +kernel
theorem dX0_isActionEnd_15 : decode cX0_isActionEnd 15 = .ok (.if_icmp .ne 7, 3) := by decide +kernel
theorem dX0_isActionEnd_18 : decode cX0_isActionEnd 18 = .ok (.iconst 1, 1) := by decide +kernel
theorem dX0_isActionEnd_19 : decode cX0_isActionEnd 19 = .ok (.goto 4, 3) := by decide +kernel
theorem dX0_isActionEnd_22 : decode cX0_isActionEnd 22 = .ok (.iconst 0, 1) := by decide +kernel
theorem dX0_isActionEnd_23 : decode cX0_isActionEnd 23 = .ok (.ireturn, 1) := by decide +kernel
theorem dX0_errorIndex_0 : decode cX0_errorIndex 0 = .ok (.iconst 1, 1) := by decide +kernel
theorem dX0_errorIndex_1 : decode cX0_errorIndex 1 = .ok (.istore_n 1, 1) := by decide +kernel
theorem dX0_errorIndex_2 : decode cX0_errorIndex 2 = .ok (.iconst 0, 1) := by decide +kernel
theorem dX0_errorIndex_3 : decode cX0_errorIndex 3 = .ok (.istore_n 2, 1) := by decide +kernel
theorem dX0_errorIndex_4 : decode cX0_errorIndex 4 = .ok (.iload_n 2, 1) := by decide +kernel
theorem dX0_errorIndex_5 : decode cX0_errorIndex 5 = .ok (.aload_n 0, 1) := by decide +kernel
theorem dX0_errorIndex_6 : decode cX0_errorIndex 6 = .ok (.getfield 15, 3) := by decide +kernel
theorem dX0_errorIndex_9 : decode cX0_errorIndex 9 = .ok (.if_icmp .ge 32, 3) := by decide +kernel
theorem dX0_errorIndex_12 : decode cX0_errorIndex 12 = .ok (.iload_n 1, 1) := by decide +kernel
theorem dX0_errorIndex_13 : decode cX0_errorIndex 13 = .ok (.aload_n 0, 1) := by decide +kernel
theorem dX0_errorIndex_14 : decode cX0_errorIndex 14 = .ok (.iload_n 2, 1) := by decide +kernel
theorem dX0_errorIndex_15 : decode cX0_errorIndex 15 = .ok (.iconst 1, 1) := by decide +kernel
theorem dX0_errorIndex_16 : decode cX0_errorIndex 16 = .ok (.isub, 1) := by decide +kernel
theorem dX0_errorIndex_17 : decode cX0_errorIndex 17 = .ok (.invokevirtual 23, 3) := by decide +kernel
theorem dX0_errorIndex_20 : decode cX0_errorIndex 20 = .ok (.aload_n 0, 1) := by decide +kernel
theorem dX0_errorIndex_21 : decode cX0_errorIndex 21 = .ok (.iload_n 2, 1) := by decide +kernel
theorem dX0_errorIndex_22 : decode cX0_errorIndex 22 = .ok (.invokevirtual 23, 3) := by decide +kernel
theorem dX0_errorIndex_25 : decode cX0_errorIndex 25 = .ok (.invokestatic 30, 3) := by decide +kernel
theorem dX0_errorIndex_28 : decode cX0_errorIndex 28 = .ok (.istore_n 1, 1) := by decide +kernel
theorem dX0_errorIndex_29 : decode cX0_errorIndex 29 = .ok (.iload_n 1, 1) := by decide +kernel
theorem dX0_errorIndex_30 : decode cX0_errorIndex 30 = .ok (.ifCond .ne 5, 3) := by decide +kernel
theorem dX0_errorIndex_33 : decode cX0_errorIndex 33 = .ok (.iload_n 2, 1) := by decide +kernel
theorem dX0_errorIndex_34 : decode cX0_errorIndex 34 = .ok (.ireturn, 1) := by decide +kernel
theorem dX0_errorIndex_35 : decode cX0_errorIndex 35 = .ok (.iinc 2 1, 3) := by decide +kernel
theorem dX0_errorIndex_38 : decode cX0_errorIndex 38 = .ok (.goto (-34), 3) := by decide +kernel
theorem dX0_errorIndex_41 : decode cX0_errorIndex 41 = .ok (.aload_n 0, 1) := by decide +kernel
theorem dX0_errorIndex_42 : decode cX0_errorIndex 42 = .ok (.getfield 15, 3) := by decide +kernel
theorem dX0_errorIndex_45 : decode cX0_errorIndex 45 = .ok (.ireturn, 1) := by decide +kernel
theorem dX0_isComplete_0 : decode cX0_isComplete 0 = .ok (.iconst 1, 1) := by decide +kernel
theorem dX0_isComplete_1 : decode cX0_isComplete 1 = .ok (.istore_n 1, 1) := by decide +kernel
theorem dX0_isComplete_2 : decode cX0_isComplete 2 = .ok (.iconst 0, 1) := by decide +kernel
theorem dX0_isComplete_3 : decode cX0_isComplete 3 = .ok (.istore_n 2, 1) := by decide +kernel
theorem dX0_isComplete_4 : decode cX0_isComplete 4 = .ok (.iload_n 2, 1) := by decide +kernel
theorem dX0_isComplete_5 : decode cX0_isComplete 5 = .ok (.aload_n 0, 1) := by decide +kernel
theorem dX0_isComplete_6 : decode cX0_isComplete 6 = .ok (.getfield 15, 3) := by decide +kernel
theorem dX0_isComplete_9 : decode cX0_isComplete 9 = .ok (.if_icmp .ge 26, 3) := by decide +kernel
theorem dX0_isComplete_12 : decode cX0_isComplete 12 = .ok (.iload_n 1, 1) := by decide +kernel
theorem dX0_isComplete_13 : decode cX0_isComplete 13 = .ok (.aload_n 0, 1) := by decide +kernel
theorem dX0_isComplete_14 : decode cX0_isComplete 14 = .ok (.iload_n 2, 1) := by decide +kernel
theorem dX0_isComplete_15 : decode cX0_isComplete 15 = .ok (.iconst 1, 1) := by decide +kernel
theorem dX0_isComplete_16 : decode cX0_isComplete 16 = .ok (.isub, 1) := by decide +kernel
theorem dX0_isComplete_17 : decode cX0_isComplete 17 = .ok (.invokevirtual 23, 3) := by decide +kernel
theorem dX0_isComplete_20 : decode cX0_isComplete 20 = .ok (.aload_n 0, 1) := by decide +kernel
theorem dX0_isComplete_21 : decode cX0_isComplete 21 = .ok (.iload_n 2, 1) := by decide +kernel
theorem dX0_isComplete_22 : decode cX0_isComplete 22 = .ok (.invokevirtual 23, 3) := by decide +kernel
theorem dX0_isComplete_25 : decode cX0_isComplete 25 = .ok (.invokestatic 30, 3) := by decide +kernel
theorem dX0_isComplete_28 : decode cX0_isComplete 28 = .ok (.istore_n 1, 1) := by decide +kernel
theorem dX0_isComplete_29 : decode cX0_isComplete 29 = .ok (.iinc 2 1, 3) := by decide +kernel
theorem dX0_isComplete_32 : decode cX0_isComplete 32 = .ok (.goto (-28), 3) := by decide +kernel
theorem dX0_isComplete_35 : decode cX0_isComplete 35 = .ok (.iload_n 1, 1) := by decide +kernel
theorem dX0_isComplete_36 : decode cX0_isComplete 36 = .ok (.bipush 11, 2) := by decide +kernel
theorem dX0_isComplete_38 : decode cX0_isComplete 38 = .ok (.if_icmp .eq 15, 3) := by decide +kernel
theorem dX0_isComplete_41 : decode cX0_isComplete 41 = .ok (.iload_n 1, 1) := by decide +kernel
theorem dX0_isComplete_42 : decode cX0_isComplete 42 = .ok (.bipush 9, 2) := by decide +kernel
theorem dX0_isComplete_44 : decode cX0_isComplete 44 = .ok (.if_icmp .eq 9, 3) := by decide +kernel
theorem dX0_isComplete_47 : decode cX0_isComplete 47 = .ok (.iload_n 1, 1) := by decide +kernel
theorem dX0_isComplete_48 : decode cX0_isComplete 48 = .ok (.bipush 10, 2) := by decide +kernel
theorem dX0_isComplete_50 : decode cX0_isComplete 50 = .ok (.if_icmp .ne 7, 3) := by decide +kernel
theorem dX0_isComplete_53 : decode cX0_isComplete 53 = .ok (.iconst 1, 1) := by decide +kernel
theorem dX0_isComplete_54 : decode cX0_isComplete 54 = .ok (.goto 4, 3) := by decide +kernel
theorem dX0_isComplete_57 : decode cX0_isComplete 57 = .ok (.iconst 0, 1) := by decide +kernel
theorem dX0_isComplete_58 : decode cX0_isComplete 58 = .ok (.ireturn, 1) := by decide +kernel
theorem dX0_phaseAfter_0 : decode cX0_phaseAfter 0 = .ok (.iload_n 0, 1) := by decide +kernel
theorem dX0_phaseAfter_1 : decode cX0_phaseAfter 1 = .ok (.tableswitch 223 1 11 #[59, 64, 82, 99, 117, 135, 153, 176, 181, 202, 218], 59) := by decide +kernel
theorem dX0_phaseAfter_60 : decode cX0_phaseAfter 60 = .ok (.iload_n 2, 1) := by decide +kernel
theorem dX0_phaseAfter_61 : decode cX0_phaseAfter 61 = .ok (.invokestatic 34, 3) := by decide +kernel
theorem dX0_phaseAfter_64 : decode cX0_phaseAfter 64 = .ok (.ireturn, 1) := by decide +kernel
theorem dX0_phaseAfter_65 : decode cX0_phaseAfter 65 = .ok (.iload_n 2, 1) := by decide +kernel
theorem dX0_phaseAfter_66 : decode cX0_phaseAfter 66 = .ok (.bipush 48, 2) := by decide +kernel
theorem dX0_phaseAfter_68 : decode cX0_phaseAfter 68 = .ok (.bipush 55, 2) := by decide +kernel
theorem dX0_phaseAfter_70 : decode cX0_phaseAfter 70 = .ok (.invokestatic 37, 3) := by decide +kernel
theorem dX0_phaseAfter_73 : decode cX0_phaseAfter 73 = .ok (.ifCond .eq 8, 3) := by decide +kernel
theorem dX0_phaseAfter_76 : decode cX0_phaseAfter 76 = .ok (.bipush 11, 2) := by decide +kernel
theorem dX0_phaseAfter_78 : decode cX0_phaseAfter 78 = .ok (.goto 4, 3) := by decide +kernel
theorem dX0_phaseAfter_81 : decode cX0_phaseAfter 81 = .ok (.iconst 0, 1) := by decide +kernel
theorem dX0_phaseAfter_82 : decode cX0_phaseAfter 82 = .ok (.ireturn, 1) := by decide +kernel
theorem dX0_phaseAfter_83 : decode cX0_phaseAfter 83 = .ok (.iload_n 2, 1) := by decide +kernel
theorem dX0_phaseAfter_84 : decode cX0_phaseAfter 84 = .ok (.bipush 48, 2) := by decide +kernel
theorem dX0_phaseAfter_86 : decode cX0_phaseAfter 86 = .ok (.bipush 55, 2) := by decide +kernel
theorem dX0_phaseAfter_88 : decode cX0_phaseAfter 88 = .ok (.invokestatic 37, 3) := by decide +kernel
theorem dX0_phaseAfter_91 : decode cX0_phaseAfter 91 = .ok (.ifCond .eq 7, 3) := by decide +kernel
theorem dX0_phaseAfter_94 : decode cX0_phaseAfter 94 = .ok (.iconst 5, 1) := by decide +kernel
theorem dX0_phaseAfter_95 : decode cX0_phaseAfter 95 = .ok (.goto 4, 3) := by decide +kernel
theorem dX0_phaseAfter_98 : decode cX0_phaseAfter 98 = .ok (.iconst 0, 1) := by decide +kernel
theorem dX0_phaseAfter_99 : decode cX0_phaseAfter 99 = .ok (.ireturn, 1) := by decide +kernel
theorem dX0_phaseAfter_100 : decode cX0_phaseAfter 100 = .ok (.iload_n 2, 1) := by decide +kernel
theorem dX0_phaseAfter_101 : decode cX0_phaseAfter 101 = .ok (.bipush 48, 2) := by decide +kernel
theorem dX0_phaseAfter_103 : decode cX0_phaseAfter 103 = .ok (.bipush 55, 2) := by decide +kernel
theorem dX0_phaseAfter_105 : decode cX0_phaseAfter 105 = .ok (.invokestatic 37, 3) := by decide +kernel
theorem dX0_phaseAfter_108 : decode cX0_phaseAfter 108 = .ok (.ifCond .eq 8, 3) := by decide +kernel
theorem dX0_phaseAfter_111 : decode cX0_phaseAfter 111 = .ok (.bipush 6, 2) := by decide +kernel
theorem dX0_phaseAfter_113 : decode cX0_phaseAfter 113 = .ok (.goto 4, 3) := by decide +kernel
theorem dX0_phaseAfter_116 : decode cX0_phaseAfter 116 = .ok (.iconst 0, 1) := by decide +kernel
theorem dX0_phaseAfter_117 : decode cX0_phaseAfter 117 = .ok (.ireturn, 1) := by decide +kernel
theorem dX0_phaseAfter_118 : decode cX0_phaseAfter 118 = .ok (.iload_n 2, 1) := by decide +kernel
theorem dX0_phaseAfter_119 : decode cX0_phaseAfter 119 = .ok (.bipush 48, 2) := by decide +kernel
theorem dX0_phaseAfter_121 : decode cX0_phaseAfter 121 = .ok (.bipush 53, 2) := by decide +kernel
theorem dX0_phaseAfter_123 : decode cX0_phaseAfter 123 = .ok (.invokestatic 37, 3) := by decide +kernel
theorem dX0_phaseAfter_126 : decode cX0_phaseAfter 126 = .ok (.ifCond .eq 8, 3) := by decide +kernel
theorem dX0_phaseAfter_129 : decode cX0_phaseAfter 129 = .ok (.bipush 11, 2) := by decide +kernel
theorem dX0_phaseAfter_131 : decode cX0_phaseAfter 131 = .ok (.goto 4, 3) := by decide +kernel
theorem dX0_phaseAfter_134 : decode cX0_phaseAfter 134 = .ok (.iconst 0, 1) := by decide +kernel
theorem dX0_phaseAfter_135 : decode cX0_phaseAfter 135 = .ok (.ireturn, 1) := by decide +kernel
theorem dX0_phaseAfter_136 : decode cX0_phaseAfter 136 = .ok (.iload_n 2, 1) := by decide +kernel
theorem dX0_phaseAfter_137 : decode cX0_phaseAfter 137 = .ok (.bipush 48, 2) := by decide +kernel
theorem dX0_phaseAfter_139 : decode cX0_phaseAfter 139 = .ok (.bipush 53, 2) := by decide +kernel
theorem dX0_phaseAfter_141 : decode cX0_phaseAfter 141 = .ok (.invokestatic 37, 3) := by decide +kernel
theorem dX0_phaseAfter_144 : decode cX0_phaseAfter 144 = .ok (.ifCond .eq 8, 3) := by decide +kernel
theorem dX0_phaseAfter_147 : decode cX0_phaseAfter 147 = .ok (.bipush 7, 2) := by decide +kernel
theorem dX0_phaseAfter_149 : decode cX0_phaseAfter 149 = .ok (.goto 4, 3) := by decide +kernel
theorem dX0_phaseAfter_152 : decode cX0_phaseAfter 152 = .ok (.iconst 0, 1) := by decide +kernel
theorem dX0_phaseAfter_153 : decode cX0_phaseAfter 153 = .ok (.ireturn, 1) := by decide +kernel
theorem dX0_phaseAfter_154 : decode cX0_phaseAfter 154 = .ok (.iload_n 2, 1) := by decide +kernel
theorem dX0_phaseAfter_155 : decode cX0_phaseAfter 155 = .ok (.bipush 48, 2) := by decide +kernel
theorem dX0_phaseAfter_157 : decode cX0_phaseAfter 157 = .ok (.bipush 53, 2) := by decide +kernel
theorem dX0_phaseAfter_159 : decode cX0_phaseAfter 159 = .ok (.invokestatic 37, 3) := by decide +kernel
theorem dX0_phaseAfter_162 : decode cX0_phaseAfter 162 = .ok (.ifCond .eq 13, 3) := by decide +kernel
theorem dX0_phaseAfter_165 : decode cX0_phaseAfter 165 = .ok (.iload_n 2, 1) := by decide +kernel
theorem dX0_phaseAfter_166 : decode cX0_phaseAfter 166 = .ok (.iload_n 1, 1) := by decide +kernel
theorem dX0_phaseAfter_167 : decode cX0_phaseAfter 167 = .ok (.if_icmp .eq 8, 3) := by decide +kernel
theorem dX0_phaseAfter_170 : decode cX0_phaseAfter 170 = .ok (.bipush 11, 2) := by decide +kernel
theorem dX0_phaseAfter_172 : decode cX0_phaseAfter 172 = .ok (.goto 4, 3) := by decide +kernel
theorem dX0_phaseAfter_175 : decode cX0_phaseAfter 175 = .ok (.iconst 0, 1) := by decide +kernel
theorem dX0_phaseAfter_176 : decode cX0_phaseAfter 176 = .ok (.ireturn, 1) := by decide +kernel
theorem dX0_phaseAfter_177 : decode cX0_phaseAfter 177 = .ok (.iload_n 2, 1) := by decide +kernel
theorem dX0_phaseAfter_178 : decode cX0_phaseAfter 178 = .ok (.invokestatic 41, 3) := by decide +kernel
theorem dX0_phaseAfter_181 : decode cX0_phaseAfter 181 = .ok (.ireturn, 1) := by decide +kernel
theorem dX0_phaseAfter_182 : decode cX0_phaseAfter 182 = .ok (.iload_n 2, 1) := by decide +kernel
theorem dX0_phaseAfter_183 : decode cX0_phaseAfter 183 = .ok (.bipush 48, 2) := by decide +kernel
theorem dX0_phaseAfter_185 : decode cX0_phaseAfter 185 = .ok (.bipush 57, 2) := by decide +kernel
theorem dX0_phaseAfter_187 : decode cX0_phaseAfter 187 = .ok (.invokestatic 37, 3) := by decide +kernel
theorem dX0_phaseAfter_190 : decode cX0_phaseAfter 190 = .ok (.ifCond .eq 8, 3) := by decide +kernel
theorem dX0_phaseAfter_193 : decode cX0_phaseAfter 193 = .ok (.bipush 11, 2) := by decide +kernel
theorem dX0_phaseAfter_195 : decode cX0_phaseAfter 195 = .ok (.goto 7, 3) := by decide +kernel
theorem dX0_phaseAfter_198 : decode cX0_phaseAfter 198 = .ok (.iload_n 2, 1) := by decide +kernel
theorem dX0_phaseAfter_199 : decode cX0_phaseAfter 199 = .ok (.invokestatic 44, 3) := by decide +kernel
theorem dX0_phaseAfter_202 : decode cX0_phaseAfter 202 = .ok (.ireturn, 1) := by decide +kernel
theorem dX0_phaseAfter_203 : decode cX0_phaseAfter 203 = .ok (.iload_n 2, 1) := by decide +kernel
theorem dX0_phaseAfter_204 : decode cX0_phaseAfter 204 = .ok (.bipush 48, 2) := by decide +kernel
theorem dX0_phaseAfter_206 : decode cX0_phaseAfter 206 = .ok (.if_icmp .ne 8, 3) := by decide +kernel
theorem dX0_phaseAfter_209 : decode cX0_phaseAfter 209 = .ok (.bipush 11, 2) := by decide +kernel
theorem dX0_phaseAfter_211 : decode cX0_phaseAfter 211 = .ok (.goto 7, 3) := by decide +kernel
theorem dX0_phaseAfter_214 : decode cX0_phaseAfter 214 = .ok (.iload_n 2, 1) := by decide +kernel
theorem dX0_phaseAfter_215 : decode cX0_phaseAfter 215 = .ok (.invokestatic 44, 3) := by decide +kernel
theorem dX0_phaseAfter_218 : decode cX0_phaseAfter 218 = .ok (.ireturn, 1) := by decide +kernel
theorem dX0_phaseAfter_219 : decode cX0_phaseAfter 219 = .ok (.iload_n 2, 1) := by decide +kernel
theorem dX0_phaseAfter_220 : decode cX0_phaseAfter 220 = .ok (.invokestatic 44, 3) := by decide +kernel
theorem dX0_phaseAfter_223 : decode cX0_phaseAfter 223 = .ok (.ireturn, 1) := by decide +kernel
theorem dX0_phaseAfter_224 : decode cX0_phaseAfter 224 = .ok (.iconst 0, 1) := by decide +kernel
theorem dX0_phaseAfter_225 : decode cX0_phaseAfter 225 = .ok (.ireturn, 1) := by decide +kernel
theorem dX0_phaseAfterKind_0 : decode cX0_phaseAfterKind 0 = .ok (.iload_n 0, 1) := by decide +kernel
theorem dX0_phaseAfterKind_1 : decode cX0_phaseAfterKind 1 = .ok (.tableswitch 126 97 121 #[119, 126, 126, 117, 126, 126, 115, 126, 126, 126, 126, 126, 126, 115, 126, 126, 126, 126, 126, 123, 121, 126, 126, 121, 115], 115) := by decide +kernel
theorem dX0_phaseAfterKind_116 : decode cX0_phaseAfterKind 116 = .ok (.iconst 3, 1) := by decide +kernel
theorem dX0_phaseAfterKind_117 : decode cX0_phaseAfterKind 117 = .ok (.ireturn, 1) := by decide +kernel
theorem dX0_phaseAfterKind_118 : decode cX0_phaseAfterKind 118 = .ok (.iconst 2, 1) := by decide +kernel
theorem dX0_phaseAfterKind_119 : decode cX0_phaseAfterKind 119 = .ok (.ireturn, 1) := by decide +kernel
theorem dX0_phaseAfterKind_120 : decode cX0_phaseAfterKind 120 = .ok (.iconst 4, 1) := by decide +kernel
theorem dX0_phaseAfterKind_121 : decode cX0_phaseAfterKind 121 = .ok (.ireturn, 1) := by decide +kernel
theorem dX0_phaseAfterKind_122 : decode cX0_phaseAfterKind 122 = .ok (.iconst 5, 1) := by decide +kernel
theorem dX0_phaseAfterKind_123 : decode cX0_phaseAfterKind 123 = .ok (.ireturn, 1) := by decide +kernel
theorem dX0_phaseAfterKind_124 : decode cX0_phaseAfterKind 124 = .ok (.bipush 8, 2) := by decide +kernel
theorem dX0_phaseAfterKind_126 : decode cX0_phaseAfterKind 126 = .ok (.ireturn, 1) := by decide +kernel
theorem dX0_phaseAfterKind_127 : decode cX0_phaseAfterKind 127 = .ok (.iconst 0, 1) := by decide +kernel
theorem dX0_phaseAfterKind_128 : decode cX0_phaseAfterKind 128 = .ok (.ireturn, 1) := by decide +kernel
theorem dX0_phaseAfterFirstDigit_0 : decode cX0_phaseAfterFirstDigit 0 = .ok (.iload_n 0, 1) := by decide +kernel
theorem dX0_phaseAfterFirstDigit_1 : decode cX0_phaseAfterFirstDigit 1 = .ok (.bipush 49, 2) := by decide +kernel
theorem dX0_phaseAfterFirstDigit_3 : decode cX0_phaseAfterFirstDigit 3 = .ok (.if_icmp .ne 6, 3) := by decide +kernel
theorem dX0_phaseAfterFirstDigit_6 : decode cX0_phaseAfterFirstDigit 6 = .ok (.bipush 9, 2) := by decide +kernel
theorem dX0_phaseAfterFirstDigit_8 : decode cX0_phaseAfterFirstDigit 8 = .ok (.ireturn, 1) := by decide +kernel
theorem dX0_phaseAfterFirstDigit_9 : decode cX0_phaseAfterFirstDigit 9 = .ok (.iload_n 0, 1) := by decide +kernel
theorem dX0_phaseAfterFirstDigit_10 : decode cX0_phaseAfterFirstDigit 10 = .ok (.bipush 50, 2) := by decide +kernel
theorem dX0_phaseAfterFirstDigit_12 : decode cX0_phaseAfterFirstDigit 12 = .ok (.if_icmp .ne 6, 3) := by decide +kernel
theorem dX0_phaseAfterFirstDigit_15 : decode cX0_phaseAfterFirstDigit 15 = .ok (.bipush 10, 2) := by decide +kernel
theorem dX0_phaseAfterFirstDigit_17 : decode cX0_phaseAfterFirstDigit 17 = .ok (.ireturn, 1) := by decide +kernel
theorem dX0_phaseAfterFirstDigit_18 : decode cX0_phaseAfterFirstDigit 18 = .ok (.iload_n 0, 1) := by decide +kernel
theorem dX0_phaseAfterFirstDigit_19 : decode cX0_phaseAfterFirstDigit 19 = .ok (.bipush 51, 2) := by decide +kernel
theorem dX0_phaseAfterFirstDigit_21 : decode cX0_phaseAfterFirstDigit 21 = .ok (.bipush 57, 2) := by decide +kernel
theorem dX0_phaseAfterFirstDigit_23 : decode cX0_phaseAfterFirstDigit 23 = .ok (.invokestatic 37, 3) := by decide +kernel
theorem dX0_phaseAfterFirstDigit_26 : decode cX0_phaseAfterFirstDigit 26 = .ok (.ifCond .eq 8, 3) := by decide +kernel
theorem dX0_phaseAfterFirstDigit_29 : decode cX0_phaseAfterFirstDigit 29 = .ok (.bipush 11, 2) := by decide +kernel
theorem dX0_phaseAfterFirstDigit_31 : decode cX0_phaseAfterFirstDigit 31 = .ok (.goto 4, 3) := by decide +kernel
theorem dX0_phaseAfterFirstDigit_34 : decode cX0_phaseAfterFirstDigit 34 = .ok (.iconst 0, 1) := by decide +kernel
theorem dX0_phaseAfterFirstDigit_35 : decode cX0_phaseAfterFirstDigit 35 = .ok (.ireturn, 1) := by decide +kernel
theorem dX0_phaseAfterAction_0 : decode cX0_phaseAfterAction 0 = .ok (.iload_n 0, 1) := by decide +kernel
theorem dX0_phaseAfterAction_1 : decode cX0_phaseAfterAction 1 = .ok (.bipush 59, 2) := by decide +kernel
theorem dX0_phaseAfterAction_3 : decode cX0_phaseAfterAction 3 = .ok (.if_icmp .ne 7, 3) := by decide +kernel
theorem dX0_phaseAfterAction_6 : decode cX0_phaseAfterAction 6 = .ok (.iconst 1, 1) := by decide +kernel
theorem dX0_phaseAfterAction_7 : decode cX0_phaseAfterAction 7 = .ok (.goto 4, 3) := by decide +kernel
theorem dX0_phaseAfterAction_10 : decode cX0_phaseAfterAction 10 = .ok (.iconst 0, 1) := by decide +kernel
theorem dX0_phaseAfterAction_11 : decode cX0_phaseAfterAction 11 = .ok (.ireturn, 1) := by decide +kernel
theorem dX0_isIn_0 : decode cX0_isIn 0 = .ok (.iload_n 0, 1) := by decide +kernel
theorem dX0_isIn_1 : decode cX0_isIn 1 = .ok (.iload_n 1, 1) := by decide +kernel
theorem dX0_isIn_2 : decode cX0_isIn 2 = .ok (.if_icmp .lt 12, 3) := by decide +kernel
theorem dX0_isIn_5 : decode cX0_isIn 5 = .ok (.iload_n 0, 1) := by decide +kernel
theorem dX0_isIn_6 : decode cX0_isIn 6 = .ok (.iload_n 2, 1) := by decide +kernel
theorem dX0_isIn_7 : decode cX0_isIn 7 = .ok (.if_icmp .gt 7, 3) := by decide +kernel
theorem dX0_isIn_10 : decode cX0_isIn 10 = .ok (.iconst 1, 1) := by decide +kernel
theorem dX0_isIn_11 : decode cX0_isIn 11 = .ok (.goto 4, 3) := by decide +kernel
theorem dX0_isIn_14 : decode cX0_isIn 14 = .ok (.iconst 0, 1) := by decide +kernel
theorem dX0_isIn_15 : decode cX0_isIn 15 = .ok (.ireturn, 1) := by decide +kernel
theorem dX1_init_0 : decode cX1_init 0 = .ok (.aload_n 0, 1) := by decide +kernel
theorem dX1_init_1 : decode cX1_init 1 = .ok (.invokespecial 3, 3) := by decide +kernel
theorem dX1_init_4 : decode cX1_init 4 = .ok (.aload_n 0, 1) := by decide +kernel
theorem dX1_init_5 : decode cX1_init 5 = .ok (.bipush 6, 2) := by decide +kernel
theorem dX1_init_7 : decode cX1_init 7 = .ok (.anewarray 9, 3) := by decide +kernel
theorem dX1_init_10 : decode cX1_init 10 = .ok (.putfield 11, 3) := by decide +kernel
theorem dX1_init_13 : decode cX1_init 13 = .ok (.aload_n 0, 1) := by decide +kernel
theorem dX1_init_14 : decode cX1_init 14 = .ok (.iconst 0, 1) := by decide +kernel
theorem dX1_init_15 : decode cX1_init 15 = .ok (.putfield 17, 3) := by decide +kernel
theorem dX1_init_18 : decode cX1_init 18 = .ok (.iconst 0, 1) := by decide +kernel
theorem dX1_init_19 : decode cX1_init 19 = .ok (.istore_n 1, 1) := by decide +kernel
theorem dX1_init_20 : decode cX1_init 20 = .ok (.iload_n 1, 1) := by decide +kernel
theorem dX1_init_21 : decode cX1_init 21 = .ok (.bipush 6, 2) := by decide +kernel
theorem dX1_init_23 : decode cX1_init 23 = .ok (.if_icmp .ge 22, 3) := by decide +kernel
theorem dX1_init_26 : decode cX1_init 26 = .ok (.aload_n 0, 1) := by decide +kernel
theorem dX1_init_27 : decode cX1_init 27 = .ok (.getfield 11, 3) := by decide +kernel
theorem dX1_init_30 : decode cX1_init 30 = .ok (.iload_n 1, 1) := by decide +kernel
theorem dX1_init_31 : decode cX1_init 31 = .ok (.new 9, 3) := by decide +kernel
theorem dX1_init_34 : decode cX1_init 34 = .ok (.dup, 1) := by decide +kernel
theorem dX1_init_35 : decode cX1_init 35 = .ok (.invokespecial 21, 3) := by decide +kernel
theorem dX1_init_38 : decode cX1_init 38 = .ok (.aastore, 1) := by decide +kernel
theorem dX1_init_39 : decode cX1_init 39 = .ok (.iinc 1 1, 3) := by decide +kernel
theorem dX1_init_42 : decode cX1_init 42 = .ok (.goto (-22), 3) := by decide +kernel
theorem dX1_init_45 : decode cX1_init 45 = .ok (.return_, 1) := by decide +kernel
theorem dX1_size_0 : decode cX1_size 0 = .ok (.aload_n 0, 1) := by decide +kernel
theorem dX1_size_1 : decode cX1_size 1 = .ok (.getfield 17, 3) := by decide +kernel
theorem dX1_size_4 : decode cX1_size 4 = .ok (.ireturn, 1) := by decide +kernel
theorem dX1_save_0 : decode cX1_save 0 = .ok (.aload_n 0, 1) := by decide +kernel
theorem dX1_save_1 : decode cX1_save 1 = .ok (.getfield 17, 3) := by decide +kernel
theorem dX1_save_4 : decode cX1_save 4 = .ok (.bipush 6, 2) := by decide +kernel
theorem dX1_save_6 : decode cX1_save 6 = .ok (.if_icmp .lt 7, 3) := by decide +kernel
theorem dX1_save_9 : decode cX1_save 9 = .ok (.aload_n 0, 1) := by decide +kernel
theorem dX1_save_10 : decode cX1_save 10 = .ok (.invokevirtual 22, 3) := by decide +kernel
theorem dX1_save_13 : decode cX1_save 13 = .ok (.aload_n 0, 1) := by decide +kernel
theorem dX1_save_14 : decode cX1_save 14 = .ok (.getfield 11, 3) := by decide +kernel
theorem dX1_save_17 : decode cX1_save 17 = .ok (.aload_n 0, 1) := by decide +kernel
theorem dX1_save_18 : decode cX1_save 18 = .ok (.getfield 17, 3) := by decide +kernel
theorem dX1_save_21 : decode cX1_save 21 = .ok (.aaload, 1) := by decide +kernel
theorem dX1_save_22 : decode cX1_save 22 = .ok (.astore_n 2, 1) := by decide +kernel
theorem dX1_save_23 : decode cX1_save 23 = .ok (.aload_n 2, 1) := by decide +kernel
theorem dX1_save_24 : decode cX1_save 24 = .ok (.ifnull 18, 3) := by decide +kernel
theorem dX1_save_27 : decode cX1_save 27 = .ok (.aload_n 2, 1) := by decide +kernel
theorem dX1_save_28 : decode cX1_save 28 = .ok (.aload_n 1, 1) := by decide +kernel
theorem dX1_save_29 : decode cX1_save 29 = .ok (.invokevirtual 25, 3) := by decide +kernel
theorem dX1_save_32 : decode cX1_save 32 = .ok (.aload_n 0, 1) := by decide +kernel
theorem dX1_save_33 : decode cX1_save 33 = .ok (.dup, 1) := by decide +kernel
theorem dX1_save_34 : decode cX1_save 34 = .ok (.getfield 17, 3) := by decide +kernel
theorem dX1_save_37 : decode cX1_save 37 = .ok (.iconst 1, 1) := by decide +kernel
theorem dX1_save_38 : decode cX1_save 38 = .ok (.iadd, 1) := by decide +kernel
theorem dX1_save_39 : decode cX1_save 39 = .ok (.putfield 17, 3) := by decide +kernel
theorem dX1_save_42 : decode cX1_save 42 = .ok (.return_, 1) := by decide +kernel
theorem dX1_discardOldest_0 : decode cX1_discardOldest 0 = .ok (.aload_n 0, 1) := by decide +kernel
theorem dX1_discardOldest_1 : decode cX1_discardOldest 1 = .ok (.getfield 11, 3) := by decide +kernel
theorem dX1_discardOldest_4 : decode cX1_discardOldest 4 = .ok (.iconst 0, 1) := by decide +kernel
theorem dX1_discardOldest_5 : decode cX1_discardOldest 5 = .ok (.aaload, 1) := by decide +kernel
theorem dX1_discardOldest_6 : decode cX1_discardOldest 6 = .ok (.astore_n 1, 1) := by decide +kernel
theorem dX1_discardOldest_7 : decode cX1_discardOldest 7 = .ok (.iconst 1, 1) := by decide +kernel
theorem dX1_discardOldest_8 : decode cX1_discardOldest 8 = .ok (.istore_n 2, 1) := by decide +kernel
theorem dX1_discardOldest_9 : decode cX1_discardOldest 9 = .ok (.iload_n 2, 1) := by decide +kernel
theorem dX1_discardOldest_10 : decode cX1_discardOldest 10 = .ok (.bipush 6, 2) := by decide +kernel
theorem dX1_discardOldest_12 : decode cX1_discardOldest 12 = .ok (.if_icmp .ge 23, 3) := by decide +kernel
theorem dX1_discardOldest_15 : decode cX1_discardOldest 15 = .ok (.aload_n 0, 1) := by decide +kernel
theorem dX1_discardOldest_16 : decode cX1_discardOldest 16 = .ok (.getfield 11, 3) := by decide +kernel
theorem dX1_discardOldest_19 : decode cX1_discardOldest 19 = .ok (.iload_n 2, 1) := by decide +kernel
theorem dX1_discardOldest_20 : decode cX1_discardOldest 20 = .ok (.iconst 1, 1) := by decide +kernel
theorem dX1_discardOldest_21 : decode cX1_discardOldest 21 = .ok (.isub, 1) := by decide +kernel
theorem dX1_discardOldest_22 : decode cX1_discardOldest 22 = .ok (.aload_n 0, 1) := by decide +kernel
theorem dX1_discardOldest_23 : decode cX1_discardOldest 23 = .ok (.getfield 11, 3) := by decide +kernel
theorem dX1_discardOldest_26 : decode cX1_discardOldest 26 = .ok (.iload_n 2, 1) := by decide +kernel
theorem dX1_discardOldest_27 : decode cX1_discardOldest 27 = .ok (.aaload, 1) := by decide +kernel
theorem dX1_discardOldest_28 : decode cX1_discardOldest 28 = .ok (.aastore, 1) := by decide +kernel
theorem dX1_discardOldest_29 : decode cX1_discardOldest 29 = .ok (.iinc 2 1, 3) := by decide +kernel
theorem dX1_discardOldest_32 : decode cX1_discardOldest 32 = .ok (.goto (-23), 3) := by decide +kernel
theorem dX1_discardOldest_35 : decode cX1_discardOldest 35 = .ok (.aload_n 0, 1) := by decide +kernel
theorem dX1_discardOldest_36 : decode cX1_discardOldest 36 = .ok (.getfield 11, 3) := by decide +kernel
theorem dX1_discardOldest_39 : decode cX1_discardOldest 39 = .ok (.iconst 5, 1) := by decide +kernel
theorem dX1_discardOldest_40 : decode cX1_discardOldest 40 = .ok (.aload_n 1, 1) := by decide +kernel
theorem dX1_discardOldest_41 : decode cX1_discardOldest 41 = .ok (.aastore, 1) := by decide +kernel
theorem dX1_discardOldest_42 : decode cX1_discardOldest 42 = .ok (.aload_n 0, 1) := by decide +kernel
theorem dX1_discardOldest_43 : decode cX1_discardOldest 43 = .ok (.iconst 5, 1) := by decide +kernel
theorem dX1_discardOldest_44 : decode cX1_discardOldest 44 = .ok (.putfield 17, 3) := by decide +kernel
theorem dX1_discardOldest_47 : decode cX1_discardOldest 47 = .ok (.return_, 1) := by decide +kernel
theorem dX1_restore_0 : decode cX1_restore 0 = .ok (.aload_n 0, 1) := by decide +kernel
theorem dX1_restore_1 : decode cX1_restore 1 = .ok (.getfield 17, 3) := by decide +kernel
theorem dX1_restore_4 : decode cX1_restore 4 = .ok (.ifCond .gt 4, 3) := by decide +kernel
theorem dX1_restore_7 : decode cX1_restore 7 = .ok (.return_, 1) := by decide +kernel
theorem dX1_restore_8 : decode cX1_restore 8 = .ok (.aload_n 0, 1) := by decide +kernel
theorem dX1_restore_9 : decode cX1_restore 9 = .ok (.dup, 1) := by decide +kernel
theorem dX1_restore_10 : decode cX1_restore 10 = .ok (.getfield 17, 3) := by decide +kernel
theorem dX1_restore_13 : decode cX1_restore 13 = .ok (.iconst 1, 1) := by decide +kernel
theorem dX1_restore_14 : decode cX1_restore 14 = .ok (.isub, 1) := by decide +kernel
theorem dX1_restore_15 : decode cX1_restore 15 = .ok (.putfield 17, 3) := by decide +kernel
theorem dX1_restore_18 : decode cX1_restore 18 = .ok (.aload_n 0, 1) := by decide +kernel
theorem dX1_restore_19 : decode cX1_restore 19 = .ok (.getfield 11, 3) := by decide +kernel
theorem dX1_restore_22 : decode cX1_restore 22 = .ok (.aload_n 0, 1) := by decide +kernel
theorem dX1_restore_23 : decode cX1_restore 23 = .ok (.getfield 17, 3) := by decide +kernel
theorem dX1_restore_26 : decode cX1_restore 26 = .ok (.aaload, 1) := by decide +kernel
theorem dX1_restore_27 : decode cX1_restore 27 = .ok (.astore_n 2, 1) := by decide +kernel
theorem dX1_restore_28 : decode cX1_restore 28 = .ok (.aload_n 2, 1) := by decide +kernel
theorem dX1_restore_29 : decode cX1_restore 29 = .ok (.ifnull 8, 3) := by decide +kernel
theorem dX1_restore_32 : decode cX1_restore 32 = .ok (.aload_n 1, 1) := by decide +kernel
theorem dX1_restore_33 : decode cX1_restore 33 = .ok (.aload_n 2, 1) := by decide +kernel
theorem dX1_restore_34 : decode cX1_restore 34 = .ok (.invokevirtual 25, 3) := by decide +kernel
theorem dX1_restore_37 : decode cX1_restore 37 = .ok (.return_, 1) := by decide +kernel
theorem dX2_init_0 : decode cX2_init 0 = .ok (.aload_n 0, 1) := by decide +kernel
theorem dX2_init_1 : decode cX2_init 1 = .ok (.invokespecial 3, 3) := by decide +kernel
theorem dX2_init_4 : decode cX2_init 4 = .ok (.aload_n 0, 1) := by decide +kernel
theorem dX2_init_5 : decode cX2_init 5 = .ok (.iconst 0, 1) := by decide +kernel
theorem dX2_init_6 : decode cX2_init 6 = .ok (.putfield 9, 3) := by decide +kernel
theorem dX2_init_9 : decode cX2_init 9 = .ok (.aload_n 0, 1) := by decide +kernel
theorem dX2_init_10 : decode cX2_init 10 = .ok (.bipush 63, 2) := by decide +kernel
theorem dX2_init_12 : decode cX2_init 12 = .ok (.putfield 15, 3) := by decide +kernel
theorem dX2_init_15 : decode cX2_init 15 = .ok (.aload_n 0, 1) := by decide +kernel
theorem dX2_init_16 : decode cX2_init 16 = .ok (.iconst 0, 1) := by decide +kernel
theorem dX2_init_17 : decode cX2_init 17 = .ok (.putfield 18, 3) := by decide +kernel
theorem dX2_init_20 : decode cX2_init 20 = .ok (.aload_n 0, 1) := by decide +kernel
theorem dX2_init_21 : decode cX2_init 21 = .ok (.iconst 3, 1) := by decide +kernel
theorem dX2_init_22 : decode cX2_init 22 = .ok (.putfield 21, 3) := by decide +kernel
theorem dX2_init_25 : decode cX2_init 25 = .ok (.aload_n 0, 1) := by decide +kernel
theorem dX2_init_26 : decode cX2_init 26 = .ok (.bipush 8, 2) := by decide +kernel
theorem dX2_init_28 : decode cX2_init 28 = .ok (.newarray .int, 2) := by decide +kernel
theorem dX2_init_30 : decode cX2_init 30 = .ok (.putfield 24, 3) := by decide +kernel
theorem dX2_init_33 : decode cX2_init 33 = .ok (.aload_n 0, 1) := by decide +kernel
theorem dX2_init_34 : decode cX2_init 34 = .ok (.bipush 8, 2) := by decide +kernel
theorem dX2_init_36 : decode cX2_init 36 = .ok (.newarray .int, 2) := by decide +kernel
theorem dX2_init_38 : decode cX2_init 38 = .ok (.putfield 28, 3) := by decide +kernel
theorem dX2_init_41 : decode cX2_init 41 = .ok (.aload_n 0, 1) := by decide +kernel
theorem dX2_init_42 : decode cX2_init 42 = .ok (.bipush 8, 2) := by decide +kernel
theorem dX2_init_44 : decode cX2_init 44 = .ok (.newarray .int, 2) := by decide +kernel
theorem dX2_init_46 : decode cX2_init 46 = .ok (.putfield 31, 3) := by decide +kernel
theorem dX2_init_49 : decode cX2_init 49 = .ok (.aload_n 0, 1) := by decide +kernel
theorem dX2_init_50 : decode cX2_init 50 = .ok (.bipush 48, 2) := by decide +kernel
theorem dX2_init_52 : decode cX2_init 52 = .ok (.newarray .int, 2) := by decide +kernel
theorem dX2_init_54 : decode cX2_init 54 = .ok (.putfield 34, 3) := by decide +kernel
theorem dX2_init_57 : decode cX2_init 57 = .ok (.aload_n 0, 1) := by decide +kernel
theorem dX2_init_58 : decode cX2_init 58 = .ok (.bipush 48, 2) := by decide +kernel
theorem dX2_init_60 : decode cX2_init 60 = .ok (.newarray .int, 2) := by decide +kernel
theorem dX2_init_62 : decode cX2_init 62 = .ok (.putfield 37, 3) := by decide +kernel
theorem dX2_init_65 : decode cX2_init 65 = .ok (.aload_n 0, 1) := by decide +kernel
theorem dX2_init_66 : decode cX2_init 66 = .ok (.bipush 6, 2) := by decide +kernel
theorem dX2_init_68 : decode cX2_init 68 = .ok (.newarray .int, 2) := by decide +kernel
theorem dX2_init_70 : decode cX2_init 70 = .ok (.putfield 40, 3) := by decide +kernel
theorem dX2_init_73 : decode cX2_init 73 = .ok (.aload_n 0, 1) := by decide +kernel
theorem dX2_init_74 : decode cX2_init 74 = .ok (.sipush 144, 3) := by decide +kernel
theorem dX2_init_77 : decode cX2_init 77 = .ok (.newarray .int, 2) := by decide +kernel
theorem dX2_init_79 : decode cX2_init 79 = .ok (.putfield 43, 3) := by decide +kernel
theorem dX2_init_82 : decode cX2_init 82 = .ok (.return_, 1) := by decide +kernel
theorem dX2_copyFrom_0 : decode cX2_copyFrom 0 = .ok (.aload_n 0, 1) := by decide +kernel
theorem dX2_copyFrom_1 : decode cX2_copyFrom 1 = .ok (.aload_n 1, 1) := by decide +kernel
theorem dX2_copyFrom_2 : decode cX2_copyFrom 2 = .ok (.getfield 9, 3) := by decide +kernel
theorem dX2_copyFrom_5 : decode cX2_copyFrom 5 = .ok (.putfield 9, 3) := by decide +kernel
theorem dX2_copyFrom_8 : decode cX2_copyFrom 8 = .ok (.aload_n 0, 1) := by decide +kernel
theorem dX2_copyFrom_9 : decode cX2_copyFrom 9 = .ok (.aload_n 1, 1) := by decide +kernel
theorem dX2_copyFrom_10 : decode cX2_copyFrom 10 = .ok (.getfield 15, 3) := by decide +kernel
theorem dX2_copyFrom_13 : decode cX2_copyFrom 13 = .ok (.putfield 15, 3) := by decide +kernel
theorem dX2_copyFrom_16 : decode cX2_copyFrom 16 = .ok (.aload_n 0, 1) := by decide +kernel
theorem dX2_copyFrom_17 : decode cX2_copyFrom 17 = .ok (.aload_n 1, 1) := by decide +kernel
theorem dX2_copyFrom_18 : decode cX2_copyFrom 18 = .ok (.getfield 18, 3) := by decide +kernel
theorem dX2_copyFrom_21 : decode cX2_copyFrom 21 = .ok (.putfield 18, 3) := by decide +kernel
theorem dX2_copyFrom_24 : decode cX2_copyFrom 24 = .ok (.aload_n 0, 1) := by decide +kernel
theorem dX2_copyFrom_25 : decode cX2_copyFrom 25 = .ok (.aload_n 1, 1) := by decide +kernel
theorem dX2_copyFrom_26 : decode cX2_copyFrom 26 = .ok (.getfield 21, 3) := by decide +kernel
theorem dX2_copyFrom_29 : decode cX2_copyFrom 29 = .ok (.putfield 21, 3) := by decide +kernel
theorem dX2_copyFrom_32 : decode cX2_copyFrom 32 = .ok (.aload_n 1, 1) := by decide +kernel
theorem dX2_copyFrom_33 : decode cX2_copyFrom 33 = .ok (.getfield 24, 3) := by decide +kernel
theorem dX2_copyFrom_36 : decode cX2_copyFrom 36 = .ok (.aload_n 0, 1) := by decide +kernel
theorem dX2_copyFrom_37 : decode cX2_copyFrom 37 = .ok (.getfield 24, 3) := by decide +kernel
theorem dX2_copyFrom_40 : decode cX2_copyFrom 40 = .ok (.invokestatic 46, 3) := by decide +kernel
theorem dX2_copyFrom_43 : decode cX2_copyFrom 43 = .ok (.aload_n 1, 1) := by decide +kernel
theorem dX2_copyFrom_44 : decode cX2_copyFrom 44 = .ok (.getfield 28, 3) := by decide +kernel
theorem dX2_copyFrom_47 : decode cX2_copyFrom 47 = .ok (.aload_n 0, 1) := by decide +kernel
theorem dX2_copyFrom_48 : decode cX2_copyFrom 48 = .ok (.getfield 28, 3) := by decide +kernel
theorem dX2_copyFrom_51 : decode cX2_copyFrom 51 = .ok (.invokestatic 46, 3) := by decide +kernel
theorem dX2_copyFrom_54 : decode cX2_copyFrom 54 = .ok (.aload_n 1, 1) := by decide +kernel
theorem dX2_copyFrom_55 : decode cX2_copyFrom 55 = .ok (.getfield 31, 3) := by decide +kernel
theorem dX2_copyFrom_58 : decode cX2_copyFrom 58 = .ok (.aload_n 0, 1) := by decide +kernel
theorem dX2_copyFrom_59 : decode cX2_copyFrom 59 = .ok (.getfield 31, 3) := by decide +kernel
theorem dX2_copyFrom_62 : decode cX2_copyFrom 62 = .ok (.invokestatic 46, 3) := by decide +kernel
theorem dX2_copyFrom_65 : decode cX2_copyFrom 65 = .ok (.aload_n 1, 1) := by decide +kernel
theorem dX2_copyFrom_66 : decode cX2_copyFrom 66 = .ok (.getfield 34, 3) := by decide +kernel
theorem dX2_copyFrom_69 : decode cX2_copyFrom 69 = .ok (.aload_n 0, 1) := by decide +kernel
theorem dX2_copyFrom_70 : decode cX2_copyFrom 70 = .ok (.getfield 34, 3) := by decide +kernel
theorem dX2_copyFrom_73 : decode cX2_copyFrom 73 = .ok (.invokestatic 46, 3) := by decide +kernel
theorem dX2_copyFrom_76 : decode cX2_copyFrom 76 = .ok (.aload_n 1, 1) := by decide +kernel
theorem dX2_copyFrom_77 : decode cX2_copyFrom 77 = .ok (.getfield 37, 3) := by decide +kernel
theorem dX2_copyFrom_80 : decode cX2_copyFrom 80 = .ok (.aload_n 0, 1) := by decide +kernel
theorem dX2_copyFrom_81 : decode cX2_copyFrom 81 = .ok (.getfield 37, 3) := by decide +kernel
theorem dX2_copyFrom_84 : decode cX2_copyFrom 84 = .ok (.invokestatic 46, 3) := by decide +kernel
theorem dX2_copyFrom_87 : decode cX2_copyFrom 87 = .ok (.aload_n 1, 1) := by decide +kernel
theorem dX2_copyFrom_88 : decode cX2_copyFrom 88 = .ok (.getfield 40, 3) := by decide +kernel
theorem dX2_copyFrom_91 : decode cX2_copyFrom 91 = .ok (.aload_n 0, 1) := by decide +kernel
theorem dX2_copyFrom_92 : decode cX2_copyFrom 92 = .ok (.getfield 40, 3) := by decide +kernel
theorem dX2_copyFrom_95 : decode cX2_copyFrom 95 = .ok (.invokestatic 46, 3) := by decide +kernel
theorem dX2_copyFrom_98 : decode cX2_copyFrom 98 = .ok (.aload_n 1, 1) := by decide +kernel
theorem dX2_copyFrom_99 : decode cX2_copyFrom 99 = .ok (.getfield 43, 3) := by decide +kernel
theorem dX2_copyFrom_102 : decode cX2_copyFrom 102 = .ok (.aload_n 0, 1) := by decide +kernel
theorem dX2_copyFrom_103 : decode cX2_copyFrom 103 = .ok (.getfield 43, 3) := by decide +kernel
theorem dX2_copyFrom_106 : decode cX2_copyFrom 106 = .ok (.invokestatic 46, 3) := by decide +kernel
theorem dX2_copyFrom_109 : decode cX2_copyFrom 109 = .ok (.return_, 1) := by decide +kernel
theorem dX2_copyRow_0 : decode cX2_copyRow 0 = .ok (.aload_n 0, 1) := by decide +kernel
theorem dX2_copyRow_1 : decode cX2_copyRow 1 = .ok (.iconst 0, 1) := by decide +kernel
theorem dX2_copyRow_2 : decode cX2_copyRow 2 = .ok (.aload_n 1, 1) := by decide +kernel
theorem dX2_copyRow_3 : decode cX2_copyRow 3 = .ok (.iconst 0, 1) := by decide +kernel
theorem dX2_copyRow_4 : decode cX2_copyRow 4 = .ok (.aload_n 0, 1) := by decide +kernel
theorem dX2_copyRow_5 : decode cX2_copyRow 5 = .ok (.arraylength, 1) := by decide +kernel
theorem dX2_copyRow_6 : decode cX2_copyRow 6 = .ok (.aload_n 1, 1) := by decide +kernel
theorem dX2_copyRow_7 : decode cX2_copyRow 7 = .ok (.arraylength, 1) := by decide +kernel
theorem dX2_copyRow_8 : decode cX2_copyRow 8 = .ok (.invokestatic 50, 3) := by decide +kernel
theorem dX2_copyRow_11 : decode cX2_copyRow 11 = .ok (.invokestatic 56, 3) := by decide +kernel
theorem dX2_copyRow_14 : decode cX2_copyRow 14 = .ok (.return_, 1) := by decide +kernel
theorem dX2_dealCount_0 : decode cX2_dealCount 0 = .ok (.aload_n 0, 1) := by decide +kernel
theorem dX2_dealCount_1 : decode cX2_dealCount 1 = .ok (.getfield 9, 3) := by decide +kernel
theorem dX2_dealCount_4 : decode cX2_dealCount 4 = .ok (.ireturn, 1) := by decide +kernel
theorem dX2_questionCount_0 : decode cX2_questionCount 0 = .ok (.aload_n 0, 1) := by decide +kernel
theorem dX2_questionCount_1 : decode cX2_questionCount 1 = .ok (.getfield 18, 3) := by decide +kernel
theorem dX2_questionCount_4 : decode cX2_questionCount 4 = .ok (.ireturn, 1) := by decide +kernel
theorem dX2_hasDeal_0 : decode cX2_hasDeal 0 = .ok (.iload_n 1, 1) := by decide +kernel
theorem dX2_hasDeal_1 : decode cX2_hasDeal 1 = .ok (.ifCond .lt 15, 3) := by decide +kernel
theorem dX2_hasDeal_4 : decode cX2_hasDeal 4 = .ok (.iload_n 1, 1) := by decide +kernel
theorem dX2_hasDeal_5 : decode cX2_hasDeal 5 = .ok (.aload_n 0, 1) := by decide +kernel
theorem dX2_hasDeal_6 : decode cX2_hasDeal 6 = .ok (.getfield 9, 3) := by decide +kernel
theorem dX2_hasDeal_9 : decode cX2_hasDeal 9 = .ok (.if_icmp .ge 7, 3) := by decide +kernel
theorem dX2_hasDeal_12 : decode cX2_hasDeal 12 = .ok (.iconst 1, 1) := by decide +kernel
theorem dX2_hasDeal_13 : decode cX2_hasDeal 13 = .ok (.goto 4, 3) := by decide +kernel
theorem dX2_hasDeal_16 : decode cX2_hasDeal 16 = .ok (.iconst 0, 1) := by decide +kernel
theorem dX2_hasDeal_17 : decode cX2_hasDeal 17 = .ok (.ireturn, 1) := by decide +kernel
theorem dX2_isAwake_0 : decode cX2_isAwake 0 = .ok (.iload_n 1, 1) := by decide +kernel
theorem dX2_isAwake_1 : decode cX2_isAwake 1 = .ok (.ifCond .lt 24, 3) := by decide +kernel
theorem dX2_isAwake_4 : decode cX2_isAwake 4 = .ok (.iload_n 1, 1) := by decide +kernel
theorem dX2_isAwake_5 : decode cX2_isAwake 5 = .ok (.bipush 6, 2) := by decide +kernel
theorem dX2_isAwake_7 : decode cX2_isAwake 7 = .ok (.if_icmp .ge 18, 3) := by decide +kernel
theorem dX2_isAwake_10 : decode cX2_isAwake 10 = .ok (.aload_n 0, 1) := by decide +kernel
theorem dX2_isAwake_11 : decode cX2_isAwake 11 = .ok (.getfield 15, 3) := by decide +kernel
theorem dX2_isAwake_14 : decode cX2_isAwake 14 = .ok (.iload_n 1, 1) := by decide +kernel
theorem dX2_isAwake_15 : decode cX2_isAwake 15 = .ok (.ishr, 1) := by decide +kernel
theorem dX2_isAwake_16 : decode cX2_isAwake 16 = .ok (.iconst 1, 1) := by decide +kernel
theorem dX2_isAwake_17 : decode cX2_isAwake 17 = .ok (.iand, 1) := by decide +kernel
theorem dX2_isAwake_18 : decode cX2_isAwake 18 = .ok (.ifCond .eq 7, 3) := by decide +kernel
theorem dX2_isAwake_21 : decode cX2_isAwake 21 = .ok (.iconst 1, 1) := by decide +kernel
theorem dX2_isAwake_22 : decode cX2_isAwake 22 = .ok (.goto 4, 3) := by decide +kernel
theorem dX2_isAwake_25 : decode cX2_isAwake 25 = .ok (.iconst 0, 1) := by decide +kernel
theorem dX2_isAwake_26 : decode cX2_isAwake 26 = .ok (.ireturn, 1) := by decide +kernel
theorem dX2_leaderOf_0 : decode cX2_leaderOf 0 = .ok (.aload_n 0, 1) := by decide +kernel
theorem dX2_leaderOf_1 : decode cX2_leaderOf 1 = .ok (.iload_n 1, 1) := by decide +kernel
theorem dX2_leaderOf_2 : decode cX2_leaderOf 2 = .ok (.invokevirtual 62, 3) := by decide +kernel
theorem dX2_leaderOf_5 : decode cX2_leaderOf 5 = .ok (.ifCond .eq 12, 3) := by decide +kernel
theorem dX2_leaderOf_8 : decode cX2_leaderOf 8 = .ok (.aload_n 0, 1) := by decide +kernel
theorem dX2_leaderOf_9 : decode cX2_leaderOf 9 = .ok (.getfield 24, 3) := by decide +kernel
theorem dX2_leaderOf_12 : decode cX2_leaderOf 12 = .ok (.iload_n 1, 1) := by decide +kernel
theorem dX2_leaderOf_13 : decode cX2_leaderOf 13 = .ok (.iaload, 1) := by decide +kernel
theorem dX2_leaderOf_14 : decode cX2_leaderOf 14 = .ok (.goto 4, 3) := by decide +kernel
theorem dX2_leaderOf_17 : decode cX2_leaderOf 17 = .ok (.iconst (-1), 1) := by decide +kernel
theorem dX2_leaderOf_18 : decode cX2_leaderOf 18 = .ok (.ireturn, 1) := by decide +kernel
theorem dX2_decisionOf_0 : decode cX2_decisionOf 0 = .ok (.aload_n 0, 1) := by decide +kernel
theorem dX2_decisionOf_1 : decode cX2_decisionOf 1 = .ok (.iload_n 1, 1) := by decide +kernel
theorem dX2_decisionOf_2 : decode cX2_decisionOf 2 = .ok (.invokevirtual 62, 3) := by decide +kernel
theorem dX2_decisionOf_5 : decode cX2_decisionOf 5 = .ok (.ifCond .eq 12, 3) := by decide +kernel
theorem dX2_decisionOf_8 : decode cX2_decisionOf 8 = .ok (.aload_n 0, 1) := by decide +kernel
theorem dX2_decisionOf_9 : decode cX2_decisionOf 9 = .ok (.getfield 31, 3) := by decide +kernel
theorem dX2_decisionOf_12 : decode cX2_decisionOf 12 = .ok (.iload_n 1, 1) := by decide +kernel
theorem dX2_decisionOf_13 : decode cX2_decisionOf 13 = .ok (.iaload, 1) := by decide +kernel
theorem dX2_decisionOf_14 : decode cX2_decisionOf 14 = .ok (.goto 4, 3) := by decide +kernel
theorem dX2_decisionOf_17 : decode cX2_decisionOf 17 = .ok (.iconst (-1), 1) := by decide +kernel
theorem dX2_decisionOf_18 : decode cX2_decisionOf 18 = .ok (.ireturn, 1) := by decide +kernel
theorem dX2_stateOf_0 : decode cX2_stateOf 0 = .ok (.iload_n 1, 1) := by decide +kernel
theorem dX2_stateOf_1 : decode cX2_stateOf 1 = .ok (.ifCond .lt 25, 3) := by decide +kernel
theorem dX2_stateOf_4 : decode cX2_stateOf 4 = .ok (.iload_n 1, 1) := by decide +kernel
theorem dX2_stateOf_5 : decode cX2_stateOf 5 = .ok (.aload_n 0, 1) := by decide +kernel
theorem dX2_stateOf_6 : decode cX2_stateOf 6 = .ok (.getfield 9, 3) := by decide +kernel
theorem dX2_stateOf_9 : decode cX2_stateOf 9 = .ok (.if_icmp .ge 17, 3) := by decide +kernel
theorem dX2_stateOf_12 : decode cX2_stateOf 12 = .ok (.iload_n 2, 1) := by decide +kernel
theorem dX2_stateOf_13 : decode cX2_stateOf 13 = .ok (.ifCond .lt 13, 3) := by decide +kernel
theorem dX2_stateOf_16 : decode cX2_stateOf 16 = .ok (.iload_n 2, 1) := by decide +kernel
theorem dX2_stateOf_17 : decode cX2_stateOf 17 = .ok (.bipush 6, 2) := by decide +kernel
theorem dX2_stateOf_19 : decode cX2_stateOf 19 = .ok (.if_icmp .ge 7, 3) := by decide +kernel
theorem dX2_stateOf_22 : decode cX2_stateOf 22 = .ok (.iconst 1, 1) := by decide +kernel
theorem dX2_stateOf_23 : decode cX2_stateOf 23 = .ok (.goto 4, 3) := by decide +kernel
theorem dX2_stateOf_26 : decode cX2_stateOf 26 = .ok (.iconst 0, 1) := by decide +kernel
theorem dX2_stateOf_27 : decode cX2_stateOf 27 = .ok (.istore_n 3, 1) := by decide +kernel
theorem dX2_stateOf_28 : decode cX2_stateOf 28 = .ok (.iload_n 3, 1) := by decide +kernel
theorem dX2_stateOf_29 : decode cX2_stateOf 29 = .ok (.ifCond .eq 17, 3) := by decide +kernel
theorem dX2_stateOf_32 : decode cX2_stateOf 32 = .ok (.aload_n 0, 1) := by decide +kernel
theorem dX2_stateOf_33 : decode cX2_stateOf 33 = .ok (.getfield 34, 3) := by decide +kernel
theorem dX2_stateOf_36 : decode cX2_stateOf 36 = .ok (.iload_n 1, 1) := by decide +kernel
theorem dX2_stateOf_37 : decode cX2_stateOf 37 = .ok (.bipush 6, 2) := by decide +kernel
theorem dX2_stateOf_39 : decode cX2_stateOf 39 = .ok (.imul, 1) := by decide +kernel
theorem dX2_stateOf_40 : decode cX2_stateOf 40 = .ok (.iload_n 2, 1) := by decide +kernel
theorem dX2_stateOf_41 : decode cX2_stateOf 41 = .ok (.iadd, 1) := by decide +kernel
theorem dX2_stateOf_42 : decode cX2_stateOf 42 = .ok (.iaload, 1) := by decide +kernel
theorem dX2_stateOf_43 : decode cX2_stateOf 43 = .ok (.goto 4, 3) := by decide +kernel
theorem dX2_stateOf_46 : decode cX2_stateOf 46 = .ok (.iconst (-1), 1) := by decide +kernel
theorem dX2_stateOf_47 : decode cX2_stateOf 47 = .ok (.ireturn, 1) := by decide +kernel
theorem dX2_patienceOf_0 : decode cX2_patienceOf 0 = .ok (.aload_n 0, 1) := by decide +kernel
theorem dX2_patienceOf_1 : decode cX2_patienceOf 1 = .ok (.iload_n 1, 1) := by decide +kernel
theorem dX2_patienceOf_2 : decode cX2_patienceOf 2 = .ok (.iload_n 2, 1) := by decide +kernel
theorem dX2_patienceOf_3 : decode cX2_patienceOf 3 = .ok (.invokevirtual 66, 3) := by decide +kernel
theorem dX2_patienceOf_6 : decode cX2_patienceOf 6 = .ok (.iconst 1, 1) := by decide +kernel
theorem dX2_patienceOf_7 : decode cX2_patienceOf 7 = .ok (.if_icmp .ne 17, 3) := by decide +kernel
theorem dX2_patienceOf_10 : decode cX2_patienceOf 10 = .ok (.aload_n 0, 1) := by decide +kernel
theorem dX2_patienceOf_11 : decode cX2_patienceOf 11 = .ok (.getfield 37, 3) := by decide +kernel
theorem dX2_patienceOf_14 : decode cX2_patienceOf 14 = .ok (.iload_n 1, 1) := by decide +kernel
theorem dX2_patienceOf_15 : decode cX2_patienceOf 15 = .ok (.bipush 6, 2) := by decide +kernel
theorem dX2_patienceOf_17 : decode cX2_patienceOf 17 = .ok (.imul, 1) := by decide +kernel
theorem dX2_patienceOf_18 : decode cX2_patienceOf 18 = .ok (.iload_n 2, 1) := by decide +kernel
theorem dX2_patienceOf_19 : decode cX2_patienceOf 19 = .ok (.iadd, 1) := by decide +kernel
theorem dX2_patienceOf_20 : decode cX2_patienceOf 20 = .ok (.iaload, 1) := by decide +kernel
theorem dX2_patienceOf_21 : decode cX2_patienceOf 21 = .ok (.goto 4, 3) := by decide +kernel
theorem dX2_patienceOf_24 : decode cX2_patienceOf 24 = .ok (.iconst (-1), 1) := by decide +kernel
theorem dX2_patienceOf_25 : decode cX2_patienceOf 25 = .ok (.ireturn, 1) := by decide +kernel
theorem dX2_hasEnded_0 : decode cX2_hasEnded 0 = .ok (.aload_n 0, 1) := by decide +kernel
theorem dX2_hasEnded_1 : decode cX2_hasEnded 1 = .ok (.iload_n 1, 1) := by decide +kernel
theorem dX2_hasEnded_2 : decode cX2_hasEnded 2 = .ok (.iload_n 2, 1) := by decide +kernel
theorem dX2_hasEnded_3 : decode cX2_hasEnded 3 = .ok (.invokevirtual 66, 3) := by decide +kernel
theorem dX2_hasEnded_6 : decode cX2_hasEnded 6 = .ok (.invokestatic 69, 3) := by decide +kernel
theorem dX2_hasEnded_9 : decode cX2_hasEnded 9 = .ok (.ireturn, 1) := by decide +kernel
theorem dX2_entriesOf_0 : decode cX2_entriesOf 0 = .ok (.iload_n 1, 1) := by decide +kernel
theorem dX2_entriesOf_1 : decode cX2_entriesOf 1 = .ok (.invokestatic 72, 3) := by decide +kernel
theorem dX2_entriesOf_4 : decode cX2_entriesOf 4 = .ok (.ifCond .eq 12, 3) := by decide +kernel
theorem dX2_entriesOf_7 : decode cX2_entriesOf 7 = .ok (.aload_n 0, 1) := by decide +kernel
theorem dX2_entriesOf_8 : decode cX2_entriesOf 8 = .ok (.getfield 40, 3) := by decide +kernel
theorem dX2_entriesOf_11 : decode cX2_entriesOf 11 = .ok (.iload_n 1, 1) := by decide +kernel
theorem dX2_entriesOf_12 : decode cX2_entriesOf 12 = .ok (.iaload, 1) := by decide +kernel
theorem dX2_entriesOf_13 : decode cX2_entriesOf 13 = .ok (.goto 4, 3) := by decide +kernel
theorem dX2_entriesOf_16 : decode cX2_entriesOf 16 = .ok (.iconst 0, 1) := by decide +kernel
theorem dX2_entriesOf_17 : decode cX2_entriesOf 17 = .ok (.ireturn, 1) := by decide +kernel
theorem dX2_entryAt_0 : decode cX2_entryAt 0 = .ok (.iload_n 2, 1) := by decide +kernel
theorem dX2_entryAt_1 : decode cX2_entryAt 1 = .ok (.ifCond .lt 26, 3) := by decide +kernel
theorem dX2_entryAt_4 : decode cX2_entryAt 4 = .ok (.iload_n 2, 1) := by decide +kernel
theorem dX2_entryAt_5 : decode cX2_entryAt 5 = .ok (.aload_n 0, 1) := by decide +kernel
theorem dX2_entryAt_6 : decode cX2_entryAt 6 = .ok (.iload_n 1, 1) := by decide +kernel
theorem dX2_entryAt_7 : decode cX2_entryAt 7 = .ok (.invokevirtual 75, 3) := by decide +kernel
theorem dX2_entryAt_10 : decode cX2_entryAt 10 = .ok (.if_icmp .ge 17, 3) := by decide +kernel
theorem dX2_entryAt_13 : decode cX2_entryAt 13 = .ok (.aload_n 0, 1) := by decide +kernel
theorem dX2_entryAt_14 : decode cX2_entryAt 14 = .ok (.getfield 43, 3) := by decide +kernel
theorem dX2_entryAt_17 : decode cX2_entryAt 17 = .ok (.iload_n 1, 1) := by decide +kernel
theorem dX2_entryAt_18 : decode cX2_entryAt 18 = .ok (.bipush 24, 2) := by decide +kernel
theorem dX2_entryAt_20 : decode cX2_entryAt 20 = .ok (.imul, 1) := by decide +kernel
theorem dX2_entryAt_21 : decode cX2_entryAt 21 = .ok (.iload_n 2, 1) := by decide +kernel
theorem dX2_entryAt_22 : decode cX2_entryAt 22 = .ok (.iadd, 1) := by decide +kernel
theorem dX2_entryAt_23 : decode cX2_entryAt 23 = .ok (.iaload, 1) := by decide +kernel
theorem dX2_entryAt_24 : decode cX2_entryAt 24 = .ok (.goto 4, 3) := by decide +kernel
theorem dX2_entryAt_27 : decode cX2_entryAt 27 = .ok (.iconst (-1), 1) := by decide +kernel
theorem dX2_entryAt_28 : decode cX2_entryAt 28 = .ok (.ireturn, 1) := by decide +kernel
theorem dX2_itemsHeldBy_0 : decode cX2_itemsHeldBy 0 = .ok (.iconst 0, 1) := by decide +kernel
theorem dX2_itemsHeldBy_1 : decode cX2_itemsHeldBy 1 = .ok (.istore_n 2, 1) := by decide +kernel
theorem dX2_itemsHeldBy_2 : decode cX2_itemsHeldBy 2 = .ok (.iconst 0, 1) := by decide +kernel
theorem dX2_itemsHeldBy_3 : decode cX2_itemsHeldBy 3 = .ok (.istore_n 3, 1) := by decide +kernel
theorem dX2_itemsHeldBy_4 : decode cX2_itemsHeldBy 4 = .ok (.iload_n 3, 1) := by decide +kernel
theorem dX2_itemsHeldBy_5 : decode cX2_itemsHeldBy 5 = .ok (.aload_n 0, 1) := by decide +kernel
theorem dX2_itemsHeldBy_6 : decode cX2_itemsHeldBy 6 = .ok (.getfield 9, 3) := by decide +kernel
theorem dX2_itemsHeldBy_9 : decode cX2_itemsHeldBy 9 = .ok (.if_icmp .ge 30, 3) := by decide +kernel
theorem dX2_itemsHeldBy_12 : decode cX2_itemsHeldBy 12 = .ok (.aload_n 0, 1) := by decide +kernel
theorem dX2_itemsHeldBy_13 : decode cX2_itemsHeldBy 13 = .ok (.iload_n 3, 1) := by decide +kernel
theorem dX2_itemsHeldBy_14 : decode cX2_itemsHeldBy 14 = .ok (.iload_n 1, 1) := by decide +kernel
theorem dX2_itemsHeldBy_15 : decode cX2_itemsHeldBy 15 = .ok (.invokevirtual 66, 3) := by decide +kernel
theorem dX2_itemsHeldBy_18 : decode cX2_itemsHeldBy 18 = .ok (.iconst 1, 1) := by decide +kernel
theorem dX2_itemsHeldBy_19 : decode cX2_itemsHeldBy 19 = .ok (.if_icmp .ne 14, 3) := by decide +kernel
theorem dX2_itemsHeldBy_22 : decode cX2_itemsHeldBy 22 = .ok (.iload_n 2, 1) := by decide +kernel
theorem dX2_itemsHeldBy_23 : decode cX2_itemsHeldBy 23 = .ok (.iconst 1, 1) := by decide +kernel
theorem dX2_itemsHeldBy_24 : decode cX2_itemsHeldBy 24 = .ok (.aload_n 0, 1) := by decide +kernel
theorem dX2_itemsHeldBy_25 : decode cX2_itemsHeldBy 25 = .ok (.getfield 28, 3) := by decide +kernel
theorem dX2_itemsHeldBy_28 : decode cX2_itemsHeldBy 28 = .ok (.iload_n 3, 1) := by decide +kernel
theorem dX2_itemsHeldBy_29 : decode cX2_itemsHeldBy 29 = .ok (.iaload, 1) := by decide +kernel
theorem dX2_itemsHeldBy_30 : decode cX2_itemsHeldBy 30 = .ok (.ishl, 1) := by decide +kernel
theorem dX2_itemsHeldBy_31 : decode cX2_itemsHeldBy 31 = .ok (.ior, 1) := by decide +kernel
theorem dX2_itemsHeldBy_32 : decode cX2_itemsHeldBy 32 = .ok (.istore_n 2, 1) := by decide +kernel
theorem dX2_itemsHeldBy_33 : decode cX2_itemsHeldBy 33 = .ok (.iinc 3 1, 3) := by decide +kernel
theorem dX2_itemsHeldBy_36 : decode cX2_itemsHeldBy 36 = .ok (.goto (-32), 3) := by decide +kernel
theorem dX2_itemsHeldBy_39 : decode cX2_itemsHeldBy 39 = .ok (.iload_n 2, 1) := by decide +kernel
theorem dX2_itemsHeldBy_40 : decode cX2_itemsHeldBy 40 = .ok (.ireturn, 1) := by decide +kernel
theorem dX2_isEnd_0 : decode cX2_isEnd 0 = .ok (.iload_n 0, 1) := by decide +kernel
theorem dX2_isEnd_1 : decode cX2_isEnd 1 = .ok (.iconst 2, 1) := by decide +kernel
theorem dX2_isEnd_2 : decode cX2_isEnd 2 = .ok (.if_icmp .eq 8, 3) := by decide +kernel
theorem dX2_isEnd_5 : decode cX2_isEnd 5 = .ok (.iload_n 0, 1) := by decide +kernel
theorem dX2_isEnd_6 : decode cX2_isEnd 6 = .ok (.iconst 3, 1) := by decide +kernel
theorem dX2_isEnd_7 : decode cX2_isEnd 7 = .ok (.if_icmp .ne 7, 3) := by decide +kernel
theorem dX2_isEnd_10 : decode cX2_isEnd 10 = .ok (.iconst 1, 1) := by decide +kernel
theorem dX2_isEnd_11 : decode cX2_isEnd 11 = .ok (.goto 4, 3) := by decide +kernel
theorem dX2_isEnd_14 : decode cX2_isEnd 14 = .ok (.iconst 0, 1) := by decide +kernel
theorem dX2_isEnd_15 : decode cX2_isEnd 15 = .ok (.ireturn, 1) := by decide +kernel
theorem dX2_canBegin_0 : decode cX2_canBegin 0 = .ok (.iload_n 2, 1) := by decide +kernel
theorem dX2_canBegin_1 : decode cX2_canBegin 1 = .ok (.iconst 1, 1) := by decide +kernel
theorem dX2_canBegin_2 : decode cX2_canBegin 2 = .ok (.iload_n 1, 1) := by decide +kernel
theorem dX2_canBegin_3 : decode cX2_canBegin 3 = .ok (.ishl, 1) := by decide +kernel
theorem dX2_canBegin_4 : decode cX2_canBegin 4 = .ok (.ior, 1) := by decide +kernel
theorem dX2_canBegin_5 : decode cX2_canBegin 5 = .ok (.istore_n 3, 1) := by decide +kernel
theorem dX2_canBegin_6 : decode cX2_canBegin 6 = .ok (.aload_n 0, 1) := by decide +kernel
theorem dX2_canBegin_7 : decode cX2_canBegin 7 = .ok (.getfield 9, 3) := by decide +kernel
theorem dX2_canBegin_10 : decode cX2_canBegin 10 = .ok (.bipush 8, 2) := by decide +kernel
theorem dX2_canBegin_12 : decode cX2_canBegin 12 = .ok (.if_icmp .ge 17, 3) := by decide +kernel
theorem dX2_canBegin_15 : decode cX2_canBegin 15 = .ok (.aload_n 0, 1) := by decide +kernel
theorem dX2_canBegin_16 : decode cX2_canBegin 16 = .ok (.getfield 15, 3) := by decide +kernel
theorem dX2_canBegin_19 : decode cX2_canBegin 19 = .ok (.iload_n 3, 1) := by decide +kernel
theorem dX2_canBegin_20 : decode cX2_canBegin 20 = .ok (.iand, 1) := by decide +kernel
theorem dX2_canBegin_21 : decode cX2_canBegin 21 = .ok (.iload_n 3, 1) := by decide +kernel
theorem dX2_canBegin_22 : decode cX2_canBegin 22 = .ok (.if_icmp .ne 7, 3) := by decide +kernel
theorem dX2_canBegin_25 : decode cX2_canBegin 25 = .ok (.iconst 1, 1) := by decide +kernel
theorem dX2_canBegin_26 : decode cX2_canBegin 26 = .ok (.goto 4, 3) := by decide +kernel
theorem dX2_canBegin_29 : decode cX2_canBegin 29 = .ok (.iconst 0, 1) := by decide +kernel
theorem dX2_canBegin_30 : decode cX2_canBegin 30 = .ok (.ireturn, 1) := by decide +kernel
theorem dX2_canVote_0 : decode cX2_canVote 0 = .ok (.aload_n 0, 1) := by decide +kernel
theorem dX2_canVote_1 : decode cX2_canVote 1 = .ok (.iload_n 2, 1) := by decide +kernel
theorem dX2_canVote_2 : decode cX2_canVote 2 = .ok (.invokevirtual 79, 3) := by decide +kernel
theorem dX2_canVote_5 : decode cX2_canVote 5 = .ok (.ifCond .eq 16, 3) := by decide +kernel
theorem dX2_canVote_8 : decode cX2_canVote 8 = .ok (.aload_n 0, 1) := by decide +kernel
theorem dX2_canVote_9 : decode cX2_canVote 9 = .ok (.iload_n 1, 1) := by decide +kernel
theorem dX2_canVote_10 : decode cX2_canVote 10 = .ok (.iload_n 2, 1) := by decide +kernel
theorem dX2_canVote_11 : decode cX2_canVote 11 = .ok (.invokevirtual 66, 3) := by decide +kernel
theorem dX2_canVote_14 : decode cX2_canVote 14 = .ok (.ifCond .ne 7, 3) := by decide +kernel
theorem dX2_canVote_17 : decode cX2_canVote 17 = .ok (.iconst 1, 1) := by decide +kernel
theorem dX2_canVote_18 : decode cX2_canVote 18 = .ok (.goto 4, 3) := by decide +kernel
theorem dX2_canVote_21 : decode cX2_canVote 21 = .ok (.iconst 0, 1) := by decide +kernel
theorem dX2_canVote_22 : decode cX2_canVote 22 = .ok (.ireturn, 1) := by decide +kernel
theorem dX2_canDecide_0 : decode cX2_canDecide 0 = .ok (.aload_n 0, 1) := by decide +kernel
theorem dX2_canDecide_1 : decode cX2_canDecide 1 = .ok (.aload_n 0, 1) := by decide +kernel
theorem dX2_canDecide_2 : decode cX2_canDecide 2 = .ok (.iload_n 1, 1) := by decide +kernel
theorem dX2_canDecide_3 : decode cX2_canDecide 3 = .ok (.invokevirtual 82, 3) := by decide +kernel
theorem dX2_canDecide_6 : decode cX2_canDecide 6 = .ok (.invokevirtual 79, 3) := by decide +kernel
theorem dX2_canDecide_9 : decode cX2_canDecide 9 = .ok (.ifCond .eq 15, 3) := by decide +kernel
theorem dX2_canDecide_12 : decode cX2_canDecide 12 = .ok (.aload_n 0, 1) := by decide +kernel
theorem dX2_canDecide_13 : decode cX2_canDecide 13 = .ok (.iload_n 1, 1) := by decide +kernel
theorem dX2_canDecide_14 : decode cX2_canDecide 14 = .ok (.invokevirtual 85, 3) := by decide +kernel
theorem dX2_canDecide_17 : decode cX2_canDecide 17 = .ok (.ifCond .ne 7, 3) := by decide +kernel
theorem dX2_canDecide_20 : decode cX2_canDecide 20 = .ok (.iconst 1, 1) := by decide +kernel
theorem dX2_canDecide_21 : decode cX2_canDecide 21 = .ok (.goto 4, 3) := by decide +kernel
theorem dX2_canDecide_24 : decode cX2_canDecide 24 = .ok (.iconst 0, 1) := by decide +kernel
theorem dX2_canDecide_25 : decode cX2_canDecide 25 = .ok (.ireturn, 1) := by decide +kernel
theorem dX2_canTell_0 : decode cX2_canTell 0 = .ok (.aload_n 0, 1) := by decide +kernel
theorem dX2_canTell_1 : decode cX2_canTell 1 = .ok (.iload_n 2, 1) := by decide +kernel
theorem dX2_canTell_2 : decode cX2_canTell 2 = .ok (.invokevirtual 79, 3) := by decide +kernel
theorem dX2_canTell_5 : decode cX2_canTell 5 = .ok (.ifCond .eq 19, 3) := by decide +kernel
theorem dX2_canTell_8 : decode cX2_canTell 8 = .ok (.aload_n 0, 1) := by decide +kernel
theorem dX2_canTell_9 : decode cX2_canTell 9 = .ok (.aload_n 0, 1) := by decide +kernel
theorem dX2_canTell_10 : decode cX2_canTell 10 = .ok (.iload_n 1, 1) := by decide +kernel
theorem dX2_canTell_11 : decode cX2_canTell 11 = .ok (.invokevirtual 82, 3) := by decide +kernel
theorem dX2_canTell_14 : decode cX2_canTell 14 = .ok (.invokevirtual 79, 3) := by decide +kernel
theorem dX2_canTell_17 : decode cX2_canTell 17 = .ok (.ifCond .eq 7, 3) := by decide +kernel
theorem dX2_canTell_20 : decode cX2_canTell 20 = .ok (.iconst 1, 1) := by decide +kernel
theorem dX2_canTell_21 : decode cX2_canTell 21 = .ok (.goto 4, 3) := by decide +kernel
theorem dX2_canTell_24 : decode cX2_canTell 24 = .ok (.iconst 0, 1) := by decide +kernel
theorem dX2_canTell_25 : decode cX2_canTell 25 = .ok (.istore_n 3, 1) := by decide +kernel
theorem dX2_canTell_26 : decode cX2_canTell 26 = .ok (.iload_n 3, 1) := by decide +kernel
theorem dX2_canTell_27 : decode cX2_canTell 27 = .ok (.ifCond .eq 28, 3) := by decide +kernel
theorem dX2_canTell_30 : decode cX2_canTell 30 = .ok (.aload_n 0, 1) := by decide +kernel
theorem dX2_canTell_31 : decode cX2_canTell 31 = .ok (.iload_n 1, 1) := by decide +kernel
theorem dX2_canTell_32 : decode cX2_canTell 32 = .ok (.iload_n 2, 1) := by decide +kernel
theorem dX2_canTell_33 : decode cX2_canTell 33 = .ok (.invokevirtual 66, 3) := by decide +kernel
theorem dX2_canTell_36 : decode cX2_canTell 36 = .ok (.iconst (-1), 1) := by decide +kernel
theorem dX2_canTell_37 : decode cX2_canTell 37 = .ok (.if_icmp .eq 18, 3) := by decide +kernel
theorem dX2_canTell_40 : decode cX2_canTell 40 = .ok (.aload_n 0, 1) := by decide +kernel
theorem dX2_canTell_41 : decode cX2_canTell 41 = .ok (.iload_n 1, 1) := by decide +kernel
theorem dX2_canTell_42 : decode cX2_canTell 42 = .ok (.invokevirtual 85, 3) := by decide +kernel
theorem dX2_canTell_45 : decode cX2_canTell 45 = .ok (.invokestatic 69, 3) := by decide +kernel
theorem dX2_canTell_48 : decode cX2_canTell 48 = .ok (.ifCond .eq 7, 3) := by decide +kernel
theorem dX2_canTell_51 : decode cX2_canTell 51 = .ok (.iconst 1, 1) := by decide +kernel
theorem dX2_canTell_52 : decode cX2_canTell 52 = .ok (.goto 4, 3) := by decide +kernel
theorem dX2_canTell_55 : decode cX2_canTell 55 = .ok (.iconst 0, 1) := by decide +kernel
theorem dX2_canTell_56 : decode cX2_canTell 56 = .ok (.ireturn, 1) := by decide +kernel
theorem dX2_canAsk_0 : decode cX2_canAsk 0 = .ok (.iload_n 2, 1) := by decide +kernel
theorem dX2_canAsk_1 : decode cX2_canAsk 1 = .ok (.iload_n 3, 1) := by decide +kernel
theorem dX2_canAsk_2 : decode cX2_canAsk 2 = .ok (.if_icmp .eq 33, 3) := by decide +kernel
theorem dX2_canAsk_5 : decode cX2_canAsk 5 = .ok (.aload_n 0, 1) := by decide +kernel
theorem dX2_canAsk_6 : decode cX2_canAsk 6 = .ok (.iload_n 2, 1) := by decide +kernel
theorem dX2_canAsk_7 : decode cX2_canAsk 7 = .ok (.invokevirtual 79, 3) := by decide +kernel
theorem dX2_canAsk_10 : decode cX2_canAsk 10 = .ok (.ifCond .eq 25, 3) := by decide +kernel
theorem dX2_canAsk_13 : decode cX2_canAsk 13 = .ok (.aload_n 0, 1) := by decide +kernel
theorem dX2_canAsk_14 : decode cX2_canAsk 14 = .ok (.iload_n 3, 1) := by decide +kernel
theorem dX2_canAsk_15 : decode cX2_canAsk 15 = .ok (.invokevirtual 79, 3) := by decide +kernel
theorem dX2_canAsk_18 : decode cX2_canAsk 18 = .ok (.ifCond .eq 17, 3) := by decide +kernel
theorem dX2_canAsk_21 : decode cX2_canAsk 21 = .ok (.aload_n 0, 1) := by decide +kernel
theorem dX2_canAsk_22 : decode cX2_canAsk 22 = .ok (.iload_n 1, 1) := by decide +kernel
theorem dX2_canAsk_23 : decode cX2_canAsk 23 = .ok (.iload_n 2, 1) := by decide +kernel
theorem dX2_canAsk_24 : decode cX2_canAsk 24 = .ok (.invokevirtual 66, 3) := by decide +kernel
theorem dX2_canAsk_27 : decode cX2_canAsk 27 = .ok (.iconst 1, 1) := by decide +kernel
theorem dX2_canAsk_28 : decode cX2_canAsk 28 = .ok (.if_icmp .ne 7, 3) := by decide +kernel
theorem dX2_canAsk_31 : decode cX2_canAsk 31 = .ok (.iconst 1, 1) := by decide +kernel
theorem dX2_canAsk_32 : decode cX2_canAsk 32 = .ok (.goto 4, 3) := by decide +kernel
theorem dX2_canAsk_35 : decode cX2_canAsk 35 = .ok (.iconst 0, 1) := by decide +kernel
theorem dX2_canAsk_36 : decode cX2_canAsk 36 = .ok (.ireturn, 1) := by decide +kernel
theorem dX2_addDeal_0 : decode cX2_addDeal 0 = .ok (.aload_n 0, 1) := by decide +kernel
theorem dX2_addDeal_1 : decode cX2_addDeal 1 = .ok (.iload_n 1, 1) := by decide +kernel
theorem dX2_addDeal_2 : decode cX2_addDeal 2 = .ok (.iload_n 2, 1) := by decide +kernel
theorem dX2_addDeal_3 : decode cX2_addDeal 3 = .ok (.invokevirtual 88, 3) := by decide +kernel
theorem dX2_addDeal_6 : decode cX2_addDeal 6 = .ok (.ifCond .ne 5, 3) := by decide +kernel
theorem dX2_addDeal_9 : decode cX2_addDeal 9 = .ok (.iconst (-1), 1) := by decide +kernel
theorem dX2_addDeal_10 : decode cX2_addDeal 10 = .ok (.ireturn, 1) := by decide +kernel
theorem dX2_addDeal_11 : decode cX2_addDeal 11 = .ok (.aload_n 0, 1) := by decide +kernel
theorem dX2_addDeal_12 : decode cX2_addDeal 12 = .ok (.getfield 9, 3) := by decide +kernel
theorem dX2_addDeal_15 : decode cX2_addDeal 15 = .ok (.istore 4, 2) := by decide +kernel
theorem dX2_addDeal_17 : decode cX2_addDeal 17 = .ok (.aload_n 0, 1) := by decide +kernel
theorem dX2_addDeal_18 : decode cX2_addDeal 18 = .ok (.getfield 24, 3) := by decide +kernel
theorem dX2_addDeal_21 : decode cX2_addDeal 21 = .ok (.iload 4, 2) := by decide +kernel
theorem dX2_addDeal_23 : decode cX2_addDeal 23 = .ok (.iload_n 1, 1) := by decide +kernel
theorem dX2_addDeal_24 : decode cX2_addDeal 24 = .ok (.iastore, 1) := by decide +kernel
theorem dX2_addDeal_25 : decode cX2_addDeal 25 = .ok (.aload_n 0, 1) := by decide +kernel
theorem dX2_addDeal_26 : decode cX2_addDeal 26 = .ok (.getfield 28, 3) := by decide +kernel
theorem dX2_addDeal_29 : decode cX2_addDeal 29 = .ok (.iload 4, 2) := by decide +kernel
theorem dX2_addDeal_31 : decode cX2_addDeal 31 = .ok (.iload_n 3, 1) := by decide +kernel
theorem dX2_addDeal_32 : decode cX2_addDeal 32 = .ok (.iastore, 1) := by decide +kernel
theorem dX2_addDeal_33 : decode cX2_addDeal 33 = .ok (.aload_n 0, 1) := by decide +kernel
theorem dX2_addDeal_34 : decode cX2_addDeal 34 = .ok (.getfield 31, 3) := by decide +kernel
theorem dX2_addDeal_37 : decode cX2_addDeal 37 = .ok (.iload 4, 2) := by decide +kernel
theorem dX2_addDeal_39 : decode cX2_addDeal 39 = .ok (.iconst 0, 1) := by decide +kernel
theorem dX2_addDeal_40 : decode cX2_addDeal 40 = .ok (.iastore, 1) := by decide +kernel
theorem dX2_addDeal_41 : decode cX2_addDeal 41 = .ok (.iconst 0, 1) := by decide +kernel
theorem dX2_addDeal_42 : decode cX2_addDeal 42 = .ok (.istore 5, 2) := by decide +kernel
theorem dX2_addDeal_44 : decode cX2_addDeal 44 = .ok (.iload 5, 2) := by decide +kernel
theorem dX2_addDeal_46 : decode cX2_addDeal 46 = .ok (.bipush 6, 2) := by decide +kernel
theorem dX2_addDeal_48 : decode cX2_addDeal 48 = .ok (.if_icmp .ge 36, 3) := by decide +kernel
theorem dX2_addDeal_51 : decode cX2_addDeal 51 = .ok (.aload_n 0, 1) := by decide +kernel
theorem dX2_addDeal_52 : decode cX2_addDeal 52 = .ok (.getfield 34, 3) := by decide +kernel
theorem dX2_addDeal_55 : decode cX2_addDeal 55 = .ok (.iload 4, 2) := by decide +kernel
theorem dX2_addDeal_57 : decode cX2_addDeal 57 = .ok (.bipush 6, 2) := by decide +kernel
theorem dX2_addDeal_59 : decode cX2_addDeal 59 = .ok (.imul, 1) := by decide +kernel
theorem dX2_addDeal_60 : decode cX2_addDeal 60 = .ok (.iload 5, 2) := by decide +kernel
theorem dX2_addDeal_62 : decode cX2_addDeal 62 = .ok (.iadd, 1) := by decide +kernel
theorem dX2_addDeal_63 : decode cX2_addDeal 63 = .ok (.iload_n 2, 1) := by decide +kernel
theorem dX2_addDeal_64 : decode cX2_addDeal 64 = .ok (.iload 5, 2) := by decide +kernel
theorem dX2_addDeal_66 : decode cX2_addDeal 66 = .ok (.ishr, 1) := by decide +kernel
theorem dX2_addDeal_67 : decode cX2_addDeal 67 = .ok (.iconst 1, 1) := by decide +kernel
theorem dX2_addDeal_68 : decode cX2_addDeal 68 = .ok (.iand, 1) := by decide +kernel
theorem dX2_addDeal_69 : decode cX2_addDeal 69 = .ok (.ifCond .eq 7, 3) := by decide +kernel
theorem dX2_addDeal_72 : decode cX2_addDeal 72 = .ok (.iconst 0, 1) := by decide +kernel
theorem dX2_addDeal_73 : decode cX2_addDeal 73 = .ok (.goto 4, 3) := by decide +kernel
theorem dX2_addDeal_76 : decode cX2_addDeal 76 = .ok (.iconst (-1), 1) := by decide +kernel
theorem dX2_addDeal_77 : decode cX2_addDeal 77 = .ok (.iastore, 1) := by decide +kernel
theorem dX2_addDeal_78 : decode cX2_addDeal 78 = .ok (.iinc 5 1, 3) := by decide +kernel
theorem dX2_addDeal_81 : decode cX2_addDeal 81 = .ok (.goto (-37), 3) := by decide +kernel
theorem dX2_addDeal_84 : decode cX2_addDeal 84 = .ok (.aload_n 0, 1) := by decide +kernel
theorem dX2_addDeal_85 : decode cX2_addDeal 85 = .ok (.dup, 1) := by decide +kernel
theorem dX2_addDeal_86 : decode cX2_addDeal 86 = .ok (.getfield 9, 3) := by decide +kernel
theorem dX2_addDeal_89 : decode cX2_addDeal 89 = .ok (.iconst 1, 1) := by decide +kernel
theorem dX2_addDeal_90 : decode cX2_addDeal 90 = .ok (.iadd, 1) := by decide +kernel
theorem dX2_addDeal_91 : decode cX2_addDeal 91 = .ok (.putfield 9, 3) := by decide +kernel
theorem dX2_addDeal_94 : decode cX2_addDeal 94 = .ok (.iload 4, 2) := by decide +kernel
theorem dX2_addDeal_96 : decode cX2_addDeal 96 = .ok (.ireturn, 1) := by decide +kernel
theorem dX2_castVote_0 : decode cX2_castVote 0 = .ok (.aload_n 0, 1) := by decide +kernel
theorem dX2_castVote_1 : decode cX2_castVote 1 = .ok (.iload_n 1, 1) := by decide +kernel
theorem dX2_castVote_2 : decode cX2_castVote 2 = .ok (.iload_n 2, 1) := by decide +kernel
theorem dX2_castVote_3 : decode cX2_castVote 3 = .ok (.invokevirtual 92, 3) := by decide +kernel
theorem dX2_castVote_6 : decode cX2_castVote 6 = .ok (.ifCond .ne 5, 3) := by decide +kernel
theorem dX2_castVote_9 : decode cX2_castVote 9 = .ok (.iconst (-1), 1) := by decide +kernel
theorem dX2_castVote_10 : decode cX2_castVote 10 = .ok (.ireturn, 1) := by decide +kernel
theorem dX2_castVote_11 : decode cX2_castVote 11 = .ok (.iload_n 3, 1) := by decide +kernel
theorem dX2_castVote_12 : decode cX2_castVote 12 = .ok (.ifCond .eq 16, 3) := by decide +kernel
theorem dX2_castVote_15 : decode cX2_castVote 15 = .ok (.aload_n 0, 1) := by decide +kernel
theorem dX2_castVote_16 : decode cX2_castVote 16 = .ok (.iload_n 1, 1) := by decide +kernel
theorem dX2_castVote_17 : decode cX2_castVote 17 = .ok (.iload_n 2, 1) := by decide +kernel
theorem dX2_castVote_18 : decode cX2_castVote 18 = .ok (.invokevirtual 95, 3) := by decide +kernel
theorem dX2_castVote_21 : decode cX2_castVote 21 = .ok (.ifCond .ne 7, 3) := by decide +kernel
theorem dX2_castVote_24 : decode cX2_castVote 24 = .ok (.iconst 1, 1) := by decide +kernel
theorem dX2_castVote_25 : decode cX2_castVote 25 = .ok (.goto 4, 3) := by decide +kernel
theorem dX2_castVote_28 : decode cX2_castVote 28 = .ok (.iconst 3, 1) := by decide +kernel
theorem dX2_castVote_29 : decode cX2_castVote 29 = .ok (.istore 4, 2) := by decide +kernel
theorem dX2_castVote_31 : decode cX2_castVote 31 = .ok (.aload_n 0, 1) := by decide +kernel
theorem dX2_castVote_32 : decode cX2_castVote 32 = .ok (.iload_n 1, 1) := by decide +kernel
theorem dX2_castVote_33 : decode cX2_castVote 33 = .ok (.iload_n 2, 1) := by decide +kernel
theorem dX2_castVote_34 : decode cX2_castVote 34 = .ok (.iload 4, 2) := by decide +kernel
theorem dX2_castVote_36 : decode cX2_castVote 36 = .ok (.invokevirtual 98, 3) := by decide +kernel
theorem dX2_castVote_39 : decode cX2_castVote 39 = .ok (.iload 4, 2) := by decide +kernel
theorem dX2_castVote_41 : decode cX2_castVote 41 = .ok (.ireturn, 1) := by decide +kernel
theorem dX2_holdsForAnother_0 : decode cX2_holdsForAnother 0 = .ok (.iconst 0, 1) := by decide +kernel
theorem dX2_holdsForAnother_1 : decode cX2_holdsForAnother 1 = .ok (.istore_n 3, 1) := by decide +kernel
theorem dX2_holdsForAnother_2 : decode cX2_holdsForAnother 2 = .ok (.iload_n 3, 1) := by decide +kernel
theorem dX2_holdsForAnother_3 : decode cX2_holdsForAnother 3 = .ok (.aload_n 0, 1) := by decide +kernel
theorem dX2_holdsForAnother_4 : decode cX2_holdsForAnother 4 = .ok (.getfield 9, 3) := by decide +kernel
theorem dX2_holdsForAnother_7 : decode cX2_holdsForAnother 7 = .ok (.if_icmp .ge 41, 3) := by decide +kernel
theorem dX2_holdsForAnother_10 : decode cX2_holdsForAnother 10 = .ok (.iload_n 3, 1) := by decide +kernel
theorem dX2_holdsForAnother_11 : decode cX2_holdsForAnother 11 = .ok (.iload_n 1, 1) := by decide +kernel
theorem dX2_holdsForAnother_12 : decode cX2_holdsForAnother 12 = .ok (.if_icmp .eq 30, 3) := by decide +kernel
theorem dX2_holdsForAnother_15 : decode cX2_holdsForAnother 15 = .ok (.aload_n 0, 1) := by decide +kernel
theorem dX2_holdsForAnother_16 : decode cX2_holdsForAnother 16 = .ok (.getfield 28, 3) := by decide +kernel
theorem dX2_holdsForAnother_19 : decode cX2_holdsForAnother 19 = .ok (.iload_n 3, 1) := by decide +kernel
theorem dX2_holdsForAnother_20 : decode cX2_holdsForAnother 20 = .ok (.iaload, 1) := by decide +kernel
theorem dX2_holdsForAnother_21 : decode cX2_holdsForAnother 21 = .ok (.aload_n 0, 1) := by decide +kernel
theorem dX2_holdsForAnother_22 : decode cX2_holdsForAnother 22 = .ok (.getfield 28, 3) := by decide +kernel
theorem dX2_holdsForAnother_25 : decode cX2_holdsForAnother 25 = .ok (.iload_n 1, 1) := by decide +kernel
theorem dX2_holdsForAnother_26 : decode cX2_holdsForAnother 26 = .ok (.iaload, 1) := by decide +kernel
theorem dX2_holdsForAnother_27 : decode cX2_holdsForAnother 27 = .ok (.if_icmp .ne 15, 3) := by decide +kernel
theorem dX2_holdsForAnother_30 : decode cX2_holdsForAnother 30 = .ok (.aload_n 0, 1) := by decide +kernel
theorem dX2_holdsForAnother_31 : decode cX2_holdsForAnother 31 = .ok (.iload_n 3, 1) := by decide +kernel
theorem dX2_holdsForAnother_32 : decode cX2_holdsForAnother 32 = .ok (.iload_n 2, 1) := by decide +kernel
theorem dX2_holdsForAnother_33 : decode cX2_holdsForAnother 33 = .ok (.invokevirtual 66, 3) := by decide +kernel
theorem dX2_holdsForAnother_36 : decode cX2_holdsForAnother 36 = .ok (.iconst 1, 1) := by decide +kernel
theorem dX2_holdsForAnother_37 : decode cX2_holdsForAnother 37 = .ok (.if_icmp .ne 5, 3) := by decide +kernel
theorem dX2_holdsForAnother_40 : decode cX2_holdsForAnother 40 = .ok (.iconst 1, 1) := by decide +kernel
theorem dX2_holdsForAnother_41 : decode cX2_holdsForAnother 41 = .ok (.ireturn, 1) := by decide +kernel
theorem dX2_holdsForAnother_42 : decode cX2_holdsForAnother 42 = .ok (.iinc 3 1, 3) := by decide +kernel
theorem dX2_holdsForAnother_45 : decode cX2_holdsForAnother 45 = .ok (.goto (-43), 3) := by decide +kernel
theorem dX2_holdsForAnother_48 : decode cX2_holdsForAnother 48 = .ok (.iconst 0, 1) := by decide +kernel
theorem dX2_holdsForAnother_49 : decode cX2_holdsForAnother 49 = .ok (.ireturn, 1) := by decide +kernel
theorem dX2_makeDecision_0 : decode cX2_makeDecision 0 = .ok (.aload_n 0, 1) := by decide +kernel
theorem dX2_makeDecision_1 : decode cX2_makeDecision 1 = .ok (.iload_n 1, 1) := by decide +kernel
theorem dX2_makeDecision_2 : decode cX2_makeDecision 2 = .ok (.invokevirtual 102, 3) := by decide +kernel
theorem dX2_makeDecision_5 : decode cX2_makeDecision 5 = .ok (.ifCond .ne 5, 3) := by decide +kernel
theorem dX2_makeDecision_8 : decode cX2_makeDecision 8 = .ok (.iconst (-1), 1) := by decide +kernel
theorem dX2_makeDecision_9 : decode cX2_makeDecision 9 = .ok (.ireturn, 1) := by decide +kernel
theorem dX2_makeDecision_10 : decode cX2_makeDecision 10 = .ok (.aload_n 0, 1) := by decide +kernel
theorem dX2_makeDecision_11 : decode cX2_makeDecision 11 = .ok (.iload_n 1, 1) := by decide +kernel
theorem dX2_makeDecision_12 : decode cX2_makeDecision 12 = .ok (.invokevirtual 105, 3) := by decide +kernel
theorem dX2_makeDecision_15 : decode cX2_makeDecision 15 = .ok (.ifCond .eq 7, 3) := by decide +kernel
theorem dX2_makeDecision_18 : decode cX2_makeDecision 18 = .ok (.iconst 2, 1) := by decide +kernel
theorem dX2_makeDecision_19 : decode cX2_makeDecision 19 = .ok (.goto 4, 3) := by decide +kernel
theorem dX2_makeDecision_22 : decode cX2_makeDecision 22 = .ok (.iconst 3, 1) := by decide +kernel
theorem dX2_makeDecision_23 : decode cX2_makeDecision 23 = .ok (.istore_n 2, 1) := by decide +kernel
theorem dX2_makeDecision_24 : decode cX2_makeDecision 24 = .ok (.aload_n 0, 1) := by decide +kernel
theorem dX2_makeDecision_25 : decode cX2_makeDecision 25 = .ok (.iload_n 1, 1) := by decide +kernel
theorem dX2_makeDecision_26 : decode cX2_makeDecision 26 = .ok (.iload_n 2, 1) := by decide +kernel
theorem dX2_makeDecision_27 : decode cX2_makeDecision 27 = .ok (.invokevirtual 108, 3) := by decide +kernel
theorem dX2_makeDecision_30 : decode cX2_makeDecision 30 = .ok (.iload_n 2, 1) := by decide +kernel
theorem dX2_makeDecision_31 : decode cX2_makeDecision 31 = .ok (.ireturn, 1) := by decide +kernel
theorem dX2_areAllInDoubt_0 : decode cX2_areAllInDoubt 0 = .ok (.iconst 0, 1) := by decide +kernel
theorem dX2_areAllInDoubt_1 : decode cX2_areAllInDoubt 1 = .ok (.istore_n 2, 1) := by decide +kernel
theorem dX2_areAllInDoubt_2 : decode cX2_areAllInDoubt 2 = .ok (.iload_n 2, 1) := by decide +kernel
theorem dX2_areAllInDoubt_3 : decode cX2_areAllInDoubt 3 = .ok (.bipush 6, 2) := by decide +kernel
theorem dX2_areAllInDoubt_5 : decode cX2_areAllInDoubt 5 = .ok (.if_icmp .ge 28, 3) := by decide +kernel
theorem dX2_areAllInDoubt_8 : decode cX2_areAllInDoubt 8 = .ok (.aload_n 0, 1) := by decide +kernel
theorem dX2_areAllInDoubt_9 : decode cX2_areAllInDoubt 9 = .ok (.iload_n 1, 1) := by decide +kernel
theorem dX2_areAllInDoubt_10 : decode cX2_areAllInDoubt 10 = .ok (.iload_n 2, 1) := by decide +kernel
theorem dX2_areAllInDoubt_11 : decode cX2_areAllInDoubt 11 = .ok (.invokevirtual 66, 3) := by decide +kernel
theorem dX2_areAllInDoubt_14 : decode cX2_areAllInDoubt 14 = .ok (.istore_n 3, 1) := by decide +kernel
theorem dX2_areAllInDoubt_15 : decode cX2_areAllInDoubt 15 = .ok (.iload_n 3, 1) := by decide +kernel
theorem dX2_areAllInDoubt_16 : decode cX2_areAllInDoubt 16 = .ok (.iconst (-1), 1) := by decide +kernel
theorem dX2_areAllInDoubt_17 : decode cX2_areAllInDoubt 17 = .ok (.if_icmp .eq 10, 3) := by decide +kernel
theorem dX2_areAllInDoubt_20 : decode cX2_areAllInDoubt 20 = .ok (.iload_n 3, 1) := by decide +kernel
theorem dX2_areAllInDoubt_21 : decode cX2_areAllInDoubt 21 = .ok (.iconst 1, 1) := by decide +kernel
theorem dX2_areAllInDoubt_22 : decode cX2_areAllInDoubt 22 = .ok (.if_icmp .eq 5, 3) := by decide +kernel
theorem dX2_areAllInDoubt_25 : decode cX2_areAllInDoubt 25 = .ok (.iconst 0, 1) := by decide +kernel
theorem dX2_areAllInDoubt_26 : decode cX2_areAllInDoubt 26 = .ok (.ireturn, 1) := by decide +kernel
theorem dX2_areAllInDoubt_27 : decode cX2_areAllInDoubt 27 = .ok (.iinc 2 1, 3) := by decide +kernel
theorem dX2_areAllInDoubt_30 : decode cX2_areAllInDoubt 30 = .ok (.goto (-28), 3) := by decide +kernel
theorem dX2_areAllInDoubt_33 : decode cX2_areAllInDoubt 33 = .ok (.iconst 1, 1) := by decide +kernel
theorem dX2_areAllInDoubt_34 : decode cX2_areAllInDoubt 34 = .ok (.ireturn, 1) := by decide +kernel
theorem dX2_tellMember_0 : decode cX2_tellMember 0 = .ok (.aload_n 0, 1) := by decide +kernel
theorem dX2_tellMember_1 : decode cX2_tellMember 1 = .ok (.iload_n 1, 1) := by decide +kernel
theorem dX2_tellMember_2 : decode cX2_tellMember 2 = .ok (.iload_n 2, 1) := by decide +kernel
theorem dX2_tellMember_3 : decode cX2_tellMember 3 = .ok (.invokevirtual 112, 3) := by decide +kernel
theorem dX2_tellMember_6 : decode cX2_tellMember 6 = .ok (.ifCond .ne 5, 3) := by decide +kernel
theorem dX2_tellMember_9 : decode cX2_tellMember 9 = .ok (.iconst (-1), 1) := by decide +kernel
theorem dX2_tellMember_10 : decode cX2_tellMember 10 = .ok (.ireturn, 1) := by decide +kernel
theorem dX2_tellMember_11 : decode cX2_tellMember 11 = .ok (.aload_n 0, 1) := by decide +kernel
theorem dX2_tellMember_12 : decode cX2_tellMember 12 = .ok (.iload_n 1, 1) := by decide +kernel
theorem dX2_tellMember_13 : decode cX2_tellMember 13 = .ok (.invokevirtual 85, 3) := by decide +kernel
theorem dX2_tellMember_16 : decode cX2_tellMember 16 = .ok (.istore_n 3, 1) := by decide +kernel
theorem dX2_tellMember_17 : decode cX2_tellMember 17 = .ok (.aload_n 0, 1) := by decide +kernel
theorem dX2_tellMember_18 : decode cX2_tellMember 18 = .ok (.iload_n 1, 1) := by decide +kernel
theorem dX2_tellMember_19 : decode cX2_tellMember 19 = .ok (.iload_n 2, 1) := by decide +kernel
theorem dX2_tellMember_20 : decode cX2_tellMember 20 = .ok (.invokevirtual 66, 3) := by decide +kernel
theorem dX2_tellMember_23 : decode cX2_tellMember 23 = .ok (.istore 4, 2) := by decide +kernel
theorem dX2_tellMember_25 : decode cX2_tellMember 25 = .ok (.iload 4, 2) := by decide +kernel
theorem dX2_tellMember_27 : decode cX2_tellMember 27 = .ok (.iconst 1, 1) := by decide +kernel
theorem dX2_tellMember_28 : decode cX2_tellMember 28 = .ok (.if_icmp .eq 13, 3) := by decide +kernel
theorem dX2_tellMember_31 : decode cX2_tellMember 31 = .ok (.iload 4, 2) := by decide +kernel
theorem dX2_tellMember_33 : decode cX2_tellMember 33 = .ok (.ifCond .ne 15, 3) := by decide +kernel
theorem dX2_tellMember_36 : decode cX2_tellMember 36 = .ok (.iload_n 3, 1) := by decide +kernel
theorem dX2_tellMember_37 : decode cX2_tellMember 37 = .ok (.iconst 3, 1) := by decide +kernel
theorem dX2_tellMember_38 : decode cX2_tellMember 38 = .ok (.if_icmp .ne 10, 3) := by decide +kernel
theorem dX2_tellMember_41 : decode cX2_tellMember 41 = .ok (.aload_n 0, 1) := by decide +kernel
theorem dX2_tellMember_42 : decode cX2_tellMember 42 = .ok (.iload_n 1, 1) := by decide +kernel
theorem dX2_tellMember_43 : decode cX2_tellMember 43 = .ok (.iload_n 2, 1) := by decide +kernel
theorem dX2_tellMember_44 : decode cX2_tellMember 44 = .ok (.iload_n 3, 1) := by decide +kernel
theorem dX2_tellMember_45 : decode cX2_tellMember 45 = .ok (.invokevirtual 98, 3) := by decide +kernel
theorem dX2_tellMember_48 : decode cX2_tellMember 48 = .ok (.aload_n 0, 1) := by decide +kernel
theorem dX2_tellMember_49 : decode cX2_tellMember 49 = .ok (.iload_n 1, 1) := by decide +kernel
theorem dX2_tellMember_50 : decode cX2_tellMember 50 = .ok (.iload_n 2, 1) := by decide +kernel
theorem dX2_tellMember_51 : decode cX2_tellMember 51 = .ok (.invokevirtual 66, 3) := by decide +kernel
theorem dX2_tellMember_54 : decode cX2_tellMember 54 = .ok (.ireturn, 1) := by decide +kernel
theorem dX2_putQuestion_0 : decode cX2_putQuestion 0 = .ok (.aload_n 0, 1) := by decide +kernel
theorem dX2_putQuestion_1 : decode cX2_putQuestion 1 = .ok (.iload_n 1, 1) := by decide +kernel
theorem dX2_putQuestion_2 : decode cX2_putQuestion 2 = .ok (.iload_n 2, 1) := by decide +kernel
theorem dX2_putQuestion_3 : decode cX2_putQuestion 3 = .ok (.iload_n 3, 1) := by decide +kernel
theorem dX2_putQuestion_4 : decode cX2_putQuestion 4 = .ok (.invokevirtual 115, 3) := by decide +kernel
theorem dX2_putQuestion_7 : decode cX2_putQuestion 7 = .ok (.ifCond .ne 5, 3) := by decide +kernel
theorem dX2_putQuestion_10 : decode cX2_putQuestion 10 = .ok (.iconst (-1), 1) := by decide +kernel
theorem dX2_putQuestion_11 : decode cX2_putQuestion 11 = .ok (.ireturn, 1) := by decide +kernel
theorem dX2_putQuestion_12 : decode cX2_putQuestion 12 = .ok (.aload_n 0, 1) := by decide +kernel
theorem dX2_putQuestion_13 : decode cX2_putQuestion 13 = .ok (.dup, 1) := by decide +kernel
theorem dX2_putQuestion_14 : decode cX2_putQuestion 14 = .ok (.getfield 18, 3) := by decide +kernel
theorem dX2_putQuestion_17 : decode cX2_putQuestion 17 = .ok (.iconst 1, 1) := by decide +kernel
theorem dX2_putQuestion_18 : decode cX2_putQuestion 18 = .ok (.iadd, 1) := by decide +kernel
theorem dX2_putQuestion_19 : decode cX2_putQuestion 19 = .ok (.putfield 18, 3) := by decide +kernel
theorem dX2_putQuestion_22 : decode cX2_putQuestion 22 = .ok (.aload_n 0, 1) := by decide +kernel
theorem dX2_putQuestion_23 : decode cX2_putQuestion 23 = .ok (.iload_n 1, 1) := by decide +kernel
theorem dX2_putQuestion_24 : decode cX2_putQuestion 24 = .ok (.iload_n 3, 1) := by decide +kernel
theorem dX2_putQuestion_25 : decode cX2_putQuestion 25 = .ok (.invokevirtual 66, 3) := by decide +kernel
theorem dX2_putQuestion_28 : decode cX2_putQuestion 28 = .ok (.istore 4, 2) := by decide +kernel
theorem dX2_putQuestion_30 : decode cX2_putQuestion 30 = .ok (.iload_n 3, 1) := by decide +kernel
theorem dX2_putQuestion_31 : decode cX2_putQuestion 31 = .ok (.aload_n 0, 1) := by decide +kernel
theorem dX2_putQuestion_32 : decode cX2_putQuestion 32 = .ok (.iload_n 1, 1) := by decide +kernel
theorem dX2_putQuestion_33 : decode cX2_putQuestion 33 = .ok (.invokevirtual 82, 3) := by decide +kernel
theorem dX2_putQuestion_36 : decode cX2_putQuestion 36 = .ok (.if_icmp .ne 27, 3) := by decide +kernel
theorem dX2_putQuestion_39 : decode cX2_putQuestion 39 = .ok (.aload_n 0, 1) := by decide +kernel
theorem dX2_putQuestion_40 : decode cX2_putQuestion 40 = .ok (.iload_n 1, 1) := by decide +kernel
theorem dX2_putQuestion_41 : decode cX2_putQuestion 41 = .ok (.invokevirtual 85, 3) := by decide +kernel
theorem dX2_putQuestion_44 : decode cX2_putQuestion 44 = .ok (.ifCond .ne 9, 3) := by decide +kernel
theorem dX2_putQuestion_47 : decode cX2_putQuestion 47 = .ok (.aload_n 0, 1) := by decide +kernel
theorem dX2_putQuestion_48 : decode cX2_putQuestion 48 = .ok (.iload_n 1, 1) := by decide +kernel
theorem dX2_putQuestion_49 : decode cX2_putQuestion 49 = .ok (.iconst 3, 1) := by decide +kernel
theorem dX2_putQuestion_50 : decode cX2_putQuestion 50 = .ok (.invokevirtual 108, 3) := by decide +kernel
theorem dX2_putQuestion_53 : decode cX2_putQuestion 53 = .ok (.aload_n 0, 1) := by decide +kernel
theorem dX2_putQuestion_54 : decode cX2_putQuestion 54 = .ok (.iload_n 1, 1) := by decide +kernel
theorem dX2_putQuestion_55 : decode cX2_putQuestion 55 = .ok (.invokevirtual 85, 3) := by decide +kernel
theorem dX2_putQuestion_58 : decode cX2_putQuestion 58 = .ok (.istore 4, 2) := by decide +kernel
theorem dX2_putQuestion_60 : decode cX2_putQuestion 60 = .ok (.goto 18, 3) := by decide +kernel
theorem dX2_putQuestion_63 : decode cX2_putQuestion 63 = .ok (.iload 4, 2) := by decide +kernel
theorem dX2_putQuestion_65 : decode cX2_putQuestion 65 = .ok (.ifCond .ne 13, 3) := by decide +kernel
theorem dX2_putQuestion_68 : decode cX2_putQuestion 68 = .ok (.aload_n 0, 1) := by decide +kernel
theorem dX2_putQuestion_69 : decode cX2_putQuestion 69 = .ok (.iload_n 1, 1) := by decide +kernel
theorem dX2_putQuestion_70 : decode cX2_putQuestion 70 = .ok (.iload_n 3, 1) := by decide +kernel
theorem dX2_putQuestion_71 : decode cX2_putQuestion 71 = .ok (.iconst 3, 1) := by decide +kernel
theorem dX2_putQuestion_72 : decode cX2_putQuestion 72 = .ok (.invokevirtual 98, 3) := by decide +kernel
theorem dX2_putQuestion_75 : decode cX2_putQuestion 75 = .ok (.iconst 3, 1) := by decide +kernel
theorem dX2_putQuestion_76 : decode cX2_putQuestion 76 = .ok (.istore 4, 2) := by decide +kernel
theorem dX2_putQuestion_78 : decode cX2_putQuestion 78 = .ok (.iload 4, 2) := by decide +kernel
theorem dX2_putQuestion_80 : decode cX2_putQuestion 80 = .ok (.invokestatic 69, 3) := by decide +kernel
theorem dX2_putQuestion_83 : decode cX2_putQuestion 83 = .ok (.ifCond .eq 11, 3) := by decide +kernel
theorem dX2_putQuestion_86 : decode cX2_putQuestion 86 = .ok (.aload_n 0, 1) := by decide +kernel
theorem dX2_putQuestion_87 : decode cX2_putQuestion 87 = .ok (.iload_n 1, 1) := by decide +kernel
theorem dX2_putQuestion_88 : decode cX2_putQuestion 88 = .ok (.iload_n 2, 1) := by decide +kernel
theorem dX2_putQuestion_89 : decode cX2_putQuestion 89 = .ok (.iload 4, 2) := by decide +kernel
theorem dX2_putQuestion_91 : decode cX2_putQuestion 91 = .ok (.invokevirtual 98, 3) := by decide +kernel
theorem dX2_putQuestion_94 : decode cX2_putQuestion 94 = .ok (.aload_n 0, 1) := by decide +kernel
theorem dX2_putQuestion_95 : decode cX2_putQuestion 95 = .ok (.iload_n 1, 1) := by decide +kernel
theorem dX2_putQuestion_96 : decode cX2_putQuestion 96 = .ok (.iload_n 2, 1) := by decide +kernel
theorem dX2_putQuestion_97 : decode cX2_putQuestion 97 = .ok (.invokevirtual 66, 3) := by decide +kernel
theorem dX2_putQuestion_100 : decode cX2_putQuestion 100 = .ok (.ireturn, 1) := by decide +kernel
theorem dX2_enter_0 : decode cX2_enter 0 = .ok (.aload_n 0, 1) := by decide +kernel
theorem dX2_enter_1 : decode cX2_enter 1 = .ok (.iload_n 1, 1) := by decide +kernel
theorem dX2_enter_2 : decode cX2_enter 2 = .ok (.iload_n 2, 1) := by decide +kernel
theorem dX2_enter_3 : decode cX2_enter 3 = .ok (.invokevirtual 66, 3) := by decide +kernel
theorem dX2_enter_6 : decode cX2_enter 6 = .ok (.iconst (-1), 1) := by decide +kernel
theorem dX2_enter_7 : decode cX2_enter 7 = .ok (.if_icmp .ne 4, 3) := by decide +kernel
theorem dX2_enter_10 : decode cX2_enter 10 = .ok (.return_, 1) := by decide +kernel
theorem dX2_enter_11 : decode cX2_enter 11 = .ok (.aload_n 0, 1) := by decide +kernel
theorem dX2_enter_12 : decode cX2_enter 12 = .ok (.getfield 34, 3) := by decide +kernel
theorem dX2_enter_15 : decode cX2_enter 15 = .ok (.iload_n 1, 1) := by decide +kernel
theorem dX2_enter_16 : decode cX2_enter 16 = .ok (.bipush 6, 2) := by decide +kernel
theorem dX2_enter_18 : decode cX2_enter 18 = .ok (.imul, 1) := by decide +kernel
theorem dX2_enter_19 : decode cX2_enter 19 = .ok (.iload_n 2, 1) := by decide +kernel
theorem dX2_enter_20 : decode cX2_enter 20 = .ok (.iadd, 1) := by decide +kernel
theorem dX2_enter_21 : decode cX2_enter 21 = .ok (.iload_n 3, 1) := by decide +kernel
theorem dX2_enter_22 : decode cX2_enter 22 = .ok (.iastore, 1) := by decide +kernel
theorem dX2_enter_23 : decode cX2_enter 23 = .ok (.iload_n 3, 1) := by decide +kernel
theorem dX2_enter_24 : decode cX2_enter 24 = .ok (.iconst 1, 1) := by decide +kernel
theorem dX2_enter_25 : decode cX2_enter 25 = .ok (.if_icmp .ne 18, 3) := by decide +kernel
theorem dX2_enter_28 : decode cX2_enter 28 = .ok (.aload_n 0, 1) := by decide +kernel
theorem dX2_enter_29 : decode cX2_enter 29 = .ok (.getfield 37, 3) := by decide +kernel
theorem dX2_enter_32 : decode cX2_enter 32 = .ok (.iload_n 1, 1) := by decide +kernel
theorem dX2_enter_33 : decode cX2_enter 33 = .ok (.bipush 6, 2) := by decide +kernel
theorem dX2_enter_35 : decode cX2_enter 35 = .ok (.imul, 1) := by decide +kernel
theorem dX2_enter_36 : decode cX2_enter 36 = .ok (.iload_n 2, 1) := by decide +kernel
theorem dX2_enter_37 : decode cX2_enter 37 = .ok (.iadd, 1) := by decide +kernel
theorem dX2_enter_38 : decode cX2_enter 38 = .ok (.aload_n 0, 1) := by decide +kernel
theorem dX2_enter_39 : decode cX2_enter 39 = .ok (.getfield 21, 3) := by decide +kernel
theorem dX2_enter_42 : decode cX2_enter 42 = .ok (.iastore, 1) := by decide +kernel
theorem dX2_enter_43 : decode cX2_enter 43 = .ok (.aload_n 0, 1) := by decide +kernel
theorem dX2_enter_44 : decode cX2_enter 44 = .ok (.iload_n 2, 1) := by decide +kernel
theorem dX2_enter_45 : decode cX2_enter 45 = .ok (.bipush 10, 2) := by decide +kernel
theorem dX2_enter_47 : decode cX2_enter 47 = .ok (.iload_n 1, 1) := by decide +kernel
theorem dX2_enter_48 : decode cX2_enter 48 = .ok (.imul, 1) := by decide +kernel
theorem dX2_enter_49 : decode cX2_enter 49 = .ok (.iload_n 3, 1) := by decide +kernel
theorem dX2_enter_50 : decode cX2_enter 50 = .ok (.iadd, 1) := by decide +kernel
theorem dX2_enter_51 : decode cX2_enter 51 = .ok (.invokevirtual 119, 3) := by decide +kernel
theorem dX2_enter_54 : decode cX2_enter 54 = .ok (.return_, 1) := by decide +kernel
theorem dX2_settle_0 : decode cX2_settle 0 = .ok (.aload_n 0, 1) := by decide +kernel
theorem dX2_settle_1 : decode cX2_settle 1 = .ok (.iload_n 1, 1) := by decide +kernel
theorem dX2_settle_2 : decode cX2_settle 2 = .ok (.invokevirtual 62, 3) := by decide +kernel
theorem dX2_settle_5 : decode cX2_settle 5 = .ok (.ifCond .ne 4, 3) := by decide +kernel
theorem dX2_settle_8 : decode cX2_settle 8 = .ok (.return_, 1) := by decide +kernel
theorem dX2_settle_9 : decode cX2_settle 9 = .ok (.aload_n 0, 1) := by decide +kernel
theorem dX2_settle_10 : decode cX2_settle 10 = .ok (.getfield 31, 3) := by decide +kernel
theorem dX2_settle_13 : decode cX2_settle 13 = .ok (.iload_n 1, 1) := by decide +kernel
theorem dX2_settle_14 : decode cX2_settle 14 = .ok (.iload_n 2, 1) := by decide +kernel
theorem dX2_settle_15 : decode cX2_settle 15 = .ok (.iastore, 1) := by decide +kernel
theorem dX2_settle_16 : decode cX2_settle 16 = .ok (.aload_n 0, 1) := by decide +kernel
theorem dX2_settle_17 : decode cX2_settle 17 = .ok (.aload_n 0, 1) := by decide +kernel
theorem dX2_settle_18 : decode cX2_settle 18 = .ok (.getfield 24, 3) := by decide +kernel
theorem dX2_settle_21 : decode cX2_settle 21 = .ok (.iload_n 1, 1) := by decide +kernel
theorem dX2_settle_22 : decode cX2_settle 22 = .ok (.iaload, 1) := by decide +kernel
theorem dX2_settle_23 : decode cX2_settle 23 = .ok (.bipush 10, 2) := by decide +kernel
theorem dX2_settle_25 : decode cX2_settle 25 = .ok (.iload_n 1, 1) := by decide +kernel
theorem dX2_settle_26 : decode cX2_settle 26 = .ok (.imul, 1) := by decide +kernel
theorem dX2_settle_27 : decode cX2_settle 27 = .ok (.iload_n 2, 1) := by decide +kernel
theorem dX2_settle_28 : decode cX2_settle 28 = .ok (.iadd, 1) := by decide +kernel
theorem dX2_settle_29 : decode cX2_settle 29 = .ok (.iconst 3, 1) := by decide +kernel
theorem dX2_settle_30 : decode cX2_settle 30 = .ok (.iadd, 1) := by decide +kernel
theorem dX2_settle_31 : decode cX2_settle 31 = .ok (.invokevirtual 119, 3) := by decide +kernel
theorem dX2_settle_34 : decode cX2_settle 34 = .ok (.return_, 1) := by decide +kernel
theorem dX2_write_0 : decode cX2_write 0 = .ok (.iload_n 1, 1) := by decide +kernel
theorem dX2_write_1 : decode cX2_write 1 = .ok (.ifCond .lt 47, 3) := by decide +kernel
theorem dX2_write_4 : decode cX2_write 4 = .ok (.iload_n 1, 1) := by decide +kernel
theorem dX2_write_5 : decode cX2_write 5 = .ok (.bipush 6, 2) := by decide +kernel
theorem dX2_write_7 : decode cX2_write 7 = .ok (.if_icmp .ge 41, 3) := by decide +kernel
theorem dX2_write_10 : decode cX2_write 10 = .ok (.aload_n 0, 1) := by decide +kernel
theorem dX2_write_11 : decode cX2_write 11 = .ok (.getfield 40, 3) := by decide +kernel
theorem dX2_write_14 : decode cX2_write 14 = .ok (.iload_n 1, 1) := by decide +kernel
theorem dX2_write_15 : decode cX2_write 15 = .ok (.iaload, 1) := by decide +kernel
theorem dX2_write_16 : decode cX2_write 16 = .ok (.bipush 24, 2) := by decide +kernel
theorem dX2_write_18 : decode cX2_write 18 = .ok (.if_icmp .ge 30, 3) := by decide +kernel
theorem dX2_write_21 : decode cX2_write 21 = .ok (.aload_n 0, 1) := by decide +kernel
theorem dX2_write_22 : decode cX2_write 22 = .ok (.getfield 43, 3) := by decide +kernel
theorem dX2_write_25 : decode cX2_write 25 = .ok (.iload_n 1, 1) := by decide +kernel
theorem dX2_write_26 : decode cX2_write 26 = .ok (.bipush 24, 2) := by decide +kernel
theorem dX2_write_28 : decode cX2_write 28 = .ok (.imul, 1) := by decide +kernel
theorem dX2_write_29 : decode cX2_write 29 = .ok (.aload_n 0, 1) := by decide +kernel
theorem dX2_write_30 : decode cX2_write 30 = .ok (.getfield 40, 3) := by decide +kernel
theorem dX2_write_33 : decode cX2_write 33 = .ok (.iload_n 1, 1) := by decide +kernel
theorem dX2_write_34 : decode cX2_write 34 = .ok (.iaload, 1) := by decide +kernel
theorem dX2_write_35 : decode cX2_write 35 = .ok (.iadd, 1) := by decide +kernel
theorem dX2_write_36 : decode cX2_write 36 = .ok (.iload_n 2, 1) := by decide +kernel
theorem dX2_write_37 : decode cX2_write 37 = .ok (.iastore, 1) := by decide +kernel
theorem dX2_write_38 : decode cX2_write 38 = .ok (.aload_n 0, 1) := by decide +kernel
theorem dX2_write_39 : decode cX2_write 39 = .ok (.getfield 40, 3) := by decide +kernel
theorem dX2_write_42 : decode cX2_write 42 = .ok (.iload_n 1, 1) := by decide +kernel
theorem dX2_write_43 : decode cX2_write 43 = .ok (.dup2, 1) := by decide +kernel
theorem dX2_write_44 : decode cX2_write 44 = .ok (.iaload, 1) := by decide +kernel
theorem dX2_write_45 : decode cX2_write 45 = .ok (.iconst 1, 1) := by decide +kernel
theorem dX2_write_46 : decode cX2_write 46 = .ok (.iadd, 1) := by decide +kernel
theorem dX2_write_47 : decode cX2_write 47 = .ok (.iastore, 1) := by decide +kernel
theorem dX2_write_48 : decode cX2_write 48 = .ok (.return_, 1) := by decide +kernel
theorem dX2_silence_0 : decode cX2_silence 0 = .ok (.aload_n 0, 1) := by decide +kernel
theorem dX2_silence_1 : decode cX2_silence 1 = .ok (.iload_n 1, 1) := by decide +kernel
theorem dX2_silence_2 : decode cX2_silence 2 = .ok (.invokevirtual 79, 3) := by decide +kernel
theorem dX2_silence_5 : decode cX2_silence 5 = .ok (.ifCond .ne 5, 3) := by decide +kernel
theorem dX2_silence_8 : decode cX2_silence 8 = .ok (.iconst (-1), 1) := by decide +kernel
theorem dX2_silence_9 : decode cX2_silence 9 = .ok (.ireturn, 1) := by decide +kernel
theorem dX2_silence_10 : decode cX2_silence 10 = .ok (.aload_n 0, 1) := by decide +kernel
theorem dX2_silence_11 : decode cX2_silence 11 = .ok (.dup, 1) := by decide +kernel
theorem dX2_silence_12 : decode cX2_silence 12 = .ok (.getfield 15, 3) := by decide +kernel
theorem dX2_silence_15 : decode cX2_silence 15 = .ok (.iconst 1, 1) := by decide +kernel
theorem dX2_silence_16 : decode cX2_silence 16 = .ok (.iload_n 1, 1) := by decide +kernel
theorem dX2_silence_17 : decode cX2_silence 17 = .ok (.ishl, 1) := by decide +kernel
theorem dX2_silence_18 : decode cX2_silence 18 = .ok (.iconst (-1), 1) := by decide +kernel
theorem dX2_silence_19 : decode cX2_silence 19 = .ok (.ixor, 1) := by decide +kernel
theorem dX2_silence_20 : decode cX2_silence 20 = .ok (.iand, 1) := by decide +kernel
theorem dX2_silence_21 : decode cX2_silence 21 = .ok (.putfield 15, 3) := by decide +kernel
theorem dX2_silence_24 : decode cX2_silence 24 = .ok (.iconst 0, 1) := by decide +kernel
theorem dX2_silence_25 : decode cX2_silence 25 = .ok (.istore_n 2, 1) := by decide +kernel
theorem dX2_silence_26 : decode cX2_silence 26 = .ok (.iconst 0, 1) := by decide +kernel
theorem dX2_silence_27 : decode cX2_silence 27 = .ok (.istore_n 3, 1) := by decide +kernel
theorem dX2_silence_28 : decode cX2_silence 28 = .ok (.iload_n 3, 1) := by decide +kernel
theorem dX2_silence_29 : decode cX2_silence 29 = .ok (.aload_n 0, 1) := by decide +kernel
theorem dX2_silence_30 : decode cX2_silence 30 = .ok (.getfield 9, 3) := by decide +kernel
theorem dX2_silence_33 : decode cX2_silence 33 = .ok (.if_icmp .ge 22, 3) := by decide +kernel
theorem dX2_silence_36 : decode cX2_silence 36 = .ok (.aload_n 0, 1) := by decide +kernel
theorem dX2_silence_37 : decode cX2_silence 37 = .ok (.iload_n 3, 1) := by decide +kernel
theorem dX2_silence_38 : decode cX2_silence 38 = .ok (.iload_n 1, 1) := by decide +kernel
theorem dX2_silence_39 : decode cX2_silence 39 = .ok (.invokevirtual 66, 3) := by decide +kernel
theorem dX2_silence_42 : decode cX2_silence 42 = .ok (.iconst 1, 1) := by decide +kernel
theorem dX2_silence_43 : decode cX2_silence 43 = .ok (.if_icmp .ne 6, 3) := by decide +kernel
theorem dX2_silence_46 : decode cX2_silence 46 = .ok (.iinc 2 1, 3) := by decide +kernel
theorem dX2_silence_49 : decode cX2_silence 49 = .ok (.iinc 3 1, 3) := by decide +kernel
theorem dX2_silence_52 : decode cX2_silence 52 = .ok (.goto (-24), 3) := by decide +kernel
theorem dX2_silence_55 : decode cX2_silence 55 = .ok (.iload_n 2, 1) := by decide +kernel
theorem dX2_silence_56 : decode cX2_silence 56 = .ok (.ireturn, 1) := by decide +kernel
theorem dX2_wake_0 : decode cX2_wake 0 = .ok (.iload_n 1, 1) := by decide +kernel
theorem dX2_wake_1 : decode cX2_wake 1 = .ok (.invokestatic 72, 3) := by decide +kernel
theorem dX2_wake_4 : decode cX2_wake 4 = .ok (.ifCond .eq 11, 3) := by decide +kernel
theorem dX2_wake_7 : decode cX2_wake 7 = .ok (.aload_n 0, 1) := by decide +kernel
theorem dX2_wake_8 : decode cX2_wake 8 = .ok (.iload_n 1, 1) := by decide +kernel
theorem dX2_wake_9 : decode cX2_wake 9 = .ok (.invokevirtual 79, 3) := by decide +kernel
theorem dX2_wake_12 : decode cX2_wake 12 = .ok (.ifCond .eq 5, 3) := by decide +kernel
theorem dX2_wake_15 : decode cX2_wake 15 = .ok (.iconst (-1), 1) := by decide +kernel
theorem dX2_wake_16 : decode cX2_wake 16 = .ok (.ireturn, 1) := by decide +kernel
theorem dX2_wake_17 : decode cX2_wake 17 = .ok (.aload_n 0, 1) := by decide +kernel
theorem dX2_wake_18 : decode cX2_wake 18 = .ok (.iload_n 1, 1) := by decide +kernel
theorem dX2_wake_19 : decode cX2_wake 19 = .ok (.invokevirtual 75, 3) := by decide +kernel
theorem dX2_wake_22 : decode cX2_wake 22 = .ok (.istore_n 2, 1) := by decide +kernel
theorem dX2_wake_23 : decode cX2_wake 23 = .ok (.aload_n 0, 1) := by decide +kernel
theorem dX2_wake_24 : decode cX2_wake 24 = .ok (.dup, 1) := by decide +kernel
theorem dX2_wake_25 : decode cX2_wake 25 = .ok (.getfield 15, 3) := by decide +kernel
theorem dX2_wake_28 : decode cX2_wake 28 = .ok (.iconst 1, 1) := by decide +kernel
theorem dX2_wake_29 : decode cX2_wake 29 = .ok (.iload_n 1, 1) := by decide +kernel
theorem dX2_wake_30 : decode cX2_wake 30 = .ok (.ishl, 1) := by decide +kernel
theorem dX2_wake_31 : decode cX2_wake 31 = .ok (.ior, 1) := by decide +kernel
theorem dX2_wake_32 : decode cX2_wake 32 = .ok (.putfield 15, 3) := by decide +kernel
theorem dX2_wake_35 : decode cX2_wake 35 = .ok (.iconst 0, 1) := by decide +kernel
theorem dX2_wake_36 : decode cX2_wake 36 = .ok (.istore_n 3, 1) := by decide +kernel
theorem dX2_wake_37 : decode cX2_wake 37 = .ok (.iload_n 3, 1) := by decide +kernel
theorem dX2_wake_38 : decode cX2_wake 38 = .ok (.aload_n 0, 1) := by decide +kernel
theorem dX2_wake_39 : decode cX2_wake 39 = .ok (.getfield 9, 3) := by decide +kernel
theorem dX2_wake_42 : decode cX2_wake 42 = .ok (.if_icmp .ge 48, 3) := by decide +kernel
theorem dX2_wake_45 : decode cX2_wake 45 = .ok (.aload_n 0, 1) := by decide +kernel
theorem dX2_wake_46 : decode cX2_wake 46 = .ok (.iload_n 3, 1) := by decide +kernel
theorem dX2_wake_47 : decode cX2_wake 47 = .ok (.iload_n 1, 1) := by decide +kernel
theorem dX2_wake_48 : decode cX2_wake 48 = .ok (.invokevirtual 66, 3) := by decide +kernel
theorem dX2_wake_51 : decode cX2_wake 51 = .ok (.ifCond .ne 10, 3) := by decide +kernel
theorem dX2_wake_54 : decode cX2_wake 54 = .ok (.aload_n 0, 1) := by decide +kernel
theorem dX2_wake_55 : decode cX2_wake 55 = .ok (.iload_n 3, 1) := by decide +kernel
theorem dX2_wake_56 : decode cX2_wake 56 = .ok (.iload_n 1, 1) := by decide +kernel
theorem dX2_wake_57 : decode cX2_wake 57 = .ok (.iconst 3, 1) := by decide +kernel
theorem dX2_wake_58 : decode cX2_wake 58 = .ok (.invokevirtual 98, 3) := by decide +kernel
theorem dX2_wake_61 : decode cX2_wake 61 = .ok (.aload_n 0, 1) := by decide +kernel
theorem dX2_wake_62 : decode cX2_wake 62 = .ok (.iload_n 3, 1) := by decide +kernel
theorem dX2_wake_63 : decode cX2_wake 63 = .ok (.invokevirtual 82, 3) := by decide +kernel
theorem dX2_wake_66 : decode cX2_wake 66 = .ok (.iload_n 1, 1) := by decide +kernel
theorem dX2_wake_67 : decode cX2_wake 67 = .ok (.if_icmp .ne 17, 3) := by decide +kernel
theorem dX2_wake_70 : decode cX2_wake 70 = .ok (.aload_n 0, 1) := by decide +kernel
theorem dX2_wake_71 : decode cX2_wake 71 = .ok (.iload_n 3, 1) := by decide +kernel
theorem dX2_wake_72 : decode cX2_wake 72 = .ok (.invokevirtual 85, 3) := by decide +kernel
theorem dX2_wake_75 : decode cX2_wake 75 = .ok (.ifCond .ne 9, 3) := by decide +kernel
theorem dX2_wake_78 : decode cX2_wake 78 = .ok (.aload_n 0, 1) := by decide +kernel
theorem dX2_wake_79 : decode cX2_wake 79 = .ok (.iload_n 3, 1) := by decide +kernel
theorem dX2_wake_80 : decode cX2_wake 80 = .ok (.iconst 3, 1) := by decide +kernel
theorem dX2_wake_81 : decode cX2_wake 81 = .ok (.invokevirtual 108, 3) := by decide +kernel
theorem dX2_wake_84 : decode cX2_wake 84 = .ok (.iinc 3 1, 3) := by decide +kernel
theorem dX2_wake_87 : decode cX2_wake 87 = .ok (.goto (-50), 3) := by decide +kernel
theorem dX2_wake_90 : decode cX2_wake 90 = .ok (.aload_n 0, 1) := by decide +kernel
theorem dX2_wake_91 : decode cX2_wake 91 = .ok (.iload_n 1, 1) := by decide +kernel
theorem dX2_wake_92 : decode cX2_wake 92 = .ok (.invokevirtual 75, 3) := by decide +kernel
theorem dX2_wake_95 : decode cX2_wake 95 = .ok (.iload_n 2, 1) := by decide +kernel
theorem dX2_wake_96 : decode cX2_wake 96 = .ok (.isub, 1) := by decide +kernel
theorem dX2_wake_97 : decode cX2_wake 97 = .ok (.ireturn, 1) := by decide +kernel
theorem dX2_letPass_0 : decode cX2_letPass 0 = .ok (.aload_n 0, 1) := by decide +kernel
theorem dX2_letPass_1 : decode cX2_letPass 1 = .ok (.iconst 2, 1) := by decide +kernel
theorem dX2_letPass_2 : decode cX2_letPass 2 = .ok (.invokevirtual 122, 3) := by decide +kernel
theorem dX2_letPass_5 : decode cX2_letPass 5 = .ok (.aload_n 0, 1) := by decide +kernel
theorem dX2_letPass_6 : decode cX2_letPass 6 = .ok (.iconst 3, 1) := by decide +kernel
theorem dX2_letPass_7 : decode cX2_letPass 7 = .ok (.invokevirtual 122, 3) := by decide +kernel
theorem dX2_letPass_10 : decode cX2_letPass 10 = .ok (.iadd, 1) := by decide +kernel
theorem dX2_letPass_11 : decode cX2_letPass 11 = .ok (.istore_n 2, 1) := by decide +kernel
theorem dX2_letPass_12 : decode cX2_letPass 12 = .ok (.iconst 0, 1) := by decide +kernel
theorem dX2_letPass_13 : decode cX2_letPass 13 = .ok (.istore_n 3, 1) := by decide +kernel
theorem dX2_letPass_14 : decode cX2_letPass 14 = .ok (.iload_n 3, 1) := by decide +kernel
theorem dX2_letPass_15 : decode cX2_letPass 15 = .ok (.iload_n 1, 1) := by decide +kernel
theorem dX2_letPass_16 : decode cX2_letPass 16 = .ok (.if_icmp .ge 33, 3) := by decide +kernel
theorem dX2_letPass_19 : decode cX2_letPass 19 = .ok (.iconst 0, 1) := by decide +kernel
theorem dX2_letPass_20 : decode cX2_letPass 20 = .ok (.istore 4, 2) := by decide +kernel
theorem dX2_letPass_22 : decode cX2_letPass 22 = .ok (.iload 4, 2) := by decide +kernel
theorem dX2_letPass_24 : decode cX2_letPass 24 = .ok (.aload_n 0, 1) := by decide +kernel
theorem dX2_letPass_25 : decode cX2_letPass 25 = .ok (.getfield 9, 3) := by decide +kernel
theorem dX2_letPass_28 : decode cX2_letPass 28 = .ok (.if_icmp .ge 15, 3) := by decide +kernel
theorem dX2_letPass_31 : decode cX2_letPass 31 = .ok (.aload_n 0, 1) := by decide +kernel
theorem dX2_letPass_32 : decode cX2_letPass 32 = .ok (.iload 4, 2) := by decide +kernel
theorem dX2_letPass_34 : decode cX2_letPass 34 = .ok (.invokevirtual 125, 3) := by decide +kernel
theorem dX2_letPass_37 : decode cX2_letPass 37 = .ok (.iinc 4 1, 3) := by decide +kernel
theorem dX2_letPass_40 : decode cX2_letPass 40 = .ok (.goto (-18), 3) := by decide +kernel
theorem dX2_letPass_43 : decode cX2_letPass 43 = .ok (.iinc 3 1, 3) := by decide +kernel
theorem dX2_letPass_46 : decode cX2_letPass 46 = .ok (.goto (-32), 3) := by decide +kernel
theorem dX2_letPass_49 : decode cX2_letPass 49 = .ok (.aload_n 0, 1) := by decide +kernel
theorem dX2_letPass_50 : decode cX2_letPass 50 = .ok (.iconst 2, 1) := by decide +kernel
theorem dX2_letPass_51 : decode cX2_letPass 51 = .ok (.invokevirtual 122, 3) := by decide +kernel
theorem dX2_letPass_54 : decode cX2_letPass 54 = .ok (.aload_n 0, 1) := by decide +kernel
theorem dX2_letPass_55 : decode cX2_letPass 55 = .ok (.iconst 3, 1) := by decide +kernel
theorem dX2_letPass_56 : decode cX2_letPass 56 = .ok (.invokevirtual 122, 3) := by decide +kernel
theorem dX2_letPass_59 : decode cX2_letPass 59 = .ok (.iadd, 1) := by decide +kernel
theorem dX2_letPass_60 : decode cX2_letPass 60 = .ok (.iload_n 2, 1) := by decide +kernel
theorem dX2_letPass_61 : decode cX2_letPass 61 = .ok (.isub, 1) := by decide +kernel
theorem dX2_letPass_62 : decode cX2_letPass 62 = .ok (.ireturn, 1) := by decide +kernel
theorem dX2_tickDeal_0 : decode cX2_tickDeal 0 = .ok (.iconst 0, 1) := by decide +kernel
theorem dX2_tickDeal_1 : decode cX2_tickDeal 1 = .ok (.istore_n 2, 1) := by decide +kernel
theorem dX2_tickDeal_2 : decode cX2_tickDeal 2 = .ok (.iload_n 2, 1) := by decide +kernel
theorem dX2_tickDeal_3 : decode cX2_tickDeal 3 = .ok (.bipush 6, 2) := by decide +kernel
theorem dX2_tickDeal_5 : decode cX2_tickDeal 5 = .ok (.if_icmp .ge 40, 3) := by decide +kernel
theorem dX2_tickDeal_8 : decode cX2_tickDeal 8 = .ok (.aload_n 0, 1) := by decide +kernel
theorem dX2_tickDeal_9 : decode cX2_tickDeal 9 = .ok (.iload_n 1, 1) := by decide +kernel
theorem dX2_tickDeal_10 : decode cX2_tickDeal 10 = .ok (.iload_n 2, 1) := by decide +kernel
theorem dX2_tickDeal_11 : decode cX2_tickDeal 11 = .ok (.invokevirtual 129, 3) := by decide +kernel
theorem dX2_tickDeal_14 : decode cX2_tickDeal 14 = .ok (.ifCond .eq 25, 3) := by decide +kernel
theorem dX2_tickDeal_17 : decode cX2_tickDeal 17 = .ok (.iconst 0, 1) := by decide +kernel
theorem dX2_tickDeal_18 : decode cX2_tickDeal 18 = .ok (.istore_n 3, 1) := by decide +kernel
theorem dX2_tickDeal_19 : decode cX2_tickDeal 19 = .ok (.iload_n 3, 1) := by decide +kernel
theorem dX2_tickDeal_20 : decode cX2_tickDeal 20 = .ok (.bipush 6, 2) := by decide +kernel
theorem dX2_tickDeal_22 : decode cX2_tickDeal 22 = .ok (.if_icmp .ge 17, 3) := by decide +kernel
theorem dX2_tickDeal_25 : decode cX2_tickDeal 25 = .ok (.aload_n 0, 1) := by decide +kernel
theorem dX2_tickDeal_26 : decode cX2_tickDeal 26 = .ok (.iload_n 1, 1) := by decide +kernel
theorem dX2_tickDeal_27 : decode cX2_tickDeal 27 = .ok (.iload_n 2, 1) := by decide +kernel
theorem dX2_tickDeal_28 : decode cX2_tickDeal 28 = .ok (.iload_n 3, 1) := by decide +kernel
theorem dX2_tickDeal_29 : decode cX2_tickDeal 29 = .ok (.invokevirtual 132, 3) := by decide +kernel
theorem dX2_tickDeal_32 : decode cX2_tickDeal 32 = .ok (.pop, 1) := by decide +kernel
theorem dX2_tickDeal_33 : decode cX2_tickDeal 33 = .ok (.iinc 3 1, 3) := by decide +kernel
theorem dX2_tickDeal_36 : decode cX2_tickDeal 36 = .ok (.goto (-17), 3) := by decide +kernel
theorem dX2_tickDeal_39 : decode cX2_tickDeal 39 = .ok (.iinc 2 1, 3) := by decide +kernel
theorem dX2_tickDeal_42 : decode cX2_tickDeal 42 = .ok (.goto (-40), 3) := by decide +kernel
theorem dX2_tickDeal_45 : decode cX2_tickDeal 45 = .ok (.return_, 1) := by decide +kernel
theorem dX2_losesPatience_0 : decode cX2_losesPatience 0 = .ok (.aload_n 0, 1) := by decide +kernel
theorem dX2_losesPatience_1 : decode cX2_losesPatience 1 = .ok (.iload_n 2, 1) := by decide +kernel
theorem dX2_losesPatience_2 : decode cX2_losesPatience 2 = .ok (.invokevirtual 79, 3) := by decide +kernel
theorem dX2_losesPatience_5 : decode cX2_losesPatience 5 = .ok (.ifCond .eq 13, 3) := by decide +kernel
theorem dX2_losesPatience_8 : decode cX2_losesPatience 8 = .ok (.aload_n 0, 1) := by decide +kernel
theorem dX2_losesPatience_9 : decode cX2_losesPatience 9 = .ok (.iload_n 1, 1) := by decide +kernel
theorem dX2_losesPatience_10 : decode cX2_losesPatience 10 = .ok (.iload_n 2, 1) := by decide +kernel
theorem dX2_losesPatience_11 : decode cX2_losesPatience 11 = .ok (.invokevirtual 66, 3) := by decide +kernel
theorem dX2_losesPatience_14 : decode cX2_losesPatience 14 = .ok (.iconst 1, 1) := by decide +kernel
theorem dX2_losesPatience_15 : decode cX2_losesPatience 15 = .ok (.if_icmp .eq 5, 3) := by decide +kernel
theorem dX2_losesPatience_18 : decode cX2_losesPatience 18 = .ok (.iconst 0, 1) := by decide +kernel
theorem dX2_losesPatience_19 : decode cX2_losesPatience 19 = .ok (.ireturn, 1) := by decide +kernel
theorem dX2_losesPatience_20 : decode cX2_losesPatience 20 = .ok (.iload_n 1, 1) := by decide +kernel
theorem dX2_losesPatience_21 : decode cX2_losesPatience 21 = .ok (.bipush 6, 2) := by decide +kernel
theorem dX2_losesPatience_23 : decode cX2_losesPatience 23 = .ok (.imul, 1) := by decide +kernel
theorem dX2_losesPatience_24 : decode cX2_losesPatience 24 = .ok (.iload_n 2, 1) := by decide +kernel
theorem dX2_losesPatience_25 : decode cX2_losesPatience 25 = .ok (.iadd, 1) := by decide +kernel
theorem dX2_losesPatience_26 : decode cX2_losesPatience 26 = .ok (.istore_n 3, 1) := by decide +kernel
theorem dX2_losesPatience_27 : decode cX2_losesPatience 27 = .ok (.aload_n 0, 1) := by decide +kernel
theorem dX2_losesPatience_28 : decode cX2_losesPatience 28 = .ok (.getfield 37, 3) := by decide +kernel
theorem dX2_losesPatience_31 : decode cX2_losesPatience 31 = .ok (.iload_n 3, 1) := by decide +kernel
theorem dX2_losesPatience_32 : decode cX2_losesPatience 32 = .ok (.dup2, 1) := by decide +kernel
theorem dX2_losesPatience_33 : decode cX2_losesPatience 33 = .ok (.iaload, 1) := by decide +kernel
theorem dX2_losesPatience_34 : decode cX2_losesPatience 34 = .ok (.iconst 1, 1) := by decide +kernel
theorem dX2_losesPatience_35 : decode cX2_losesPatience 35 = .ok (.isub, 1) := by decide +kernel
theorem dX2_losesPatience_36 : decode cX2_losesPatience 36 = .ok (.iastore, 1) := by decide +kernel
theorem dX2_losesPatience_37 : decode cX2_losesPatience 37 = .ok (.aload_n 0, 1) := by decide +kernel
theorem dX2_losesPatience_38 : decode cX2_losesPatience 38 = .ok (.getfield 37, 3) := by decide +kernel
theorem dX2_losesPatience_41 : decode cX2_losesPatience 41 = .ok (.iload_n 3, 1) := by decide +kernel
theorem dX2_losesPatience_42 : decode cX2_losesPatience 42 = .ok (.iaload, 1) := by decide +kernel
theorem dX2_losesPatience_43 : decode cX2_losesPatience 43 = .ok (.ifCond .le 5, 3) := by decide +kernel
theorem dX2_losesPatience_46 : decode cX2_losesPatience 46 = .ok (.iconst 0, 1) := by decide +kernel
theorem dX2_losesPatience_47 : decode cX2_losesPatience 47 = .ok (.ireturn, 1) := by decide +kernel
theorem dX2_losesPatience_48 : decode cX2_losesPatience 48 = .ok (.aload_n 0, 1) := by decide +kernel
theorem dX2_losesPatience_49 : decode cX2_losesPatience 49 = .ok (.getfield 37, 3) := by decide +kernel
theorem dX2_losesPatience_52 : decode cX2_losesPatience 52 = .ok (.iload_n 3, 1) := by decide +kernel
theorem dX2_losesPatience_53 : decode cX2_losesPatience 53 = .ok (.aload_n 0, 1) := by decide +kernel
theorem dX2_losesPatience_54 : decode cX2_losesPatience 54 = .ok (.getfield 21, 3) := by decide +kernel
theorem dX2_losesPatience_57 : decode cX2_losesPatience 57 = .ok (.iastore, 1) := by decide +kernel
theorem dX2_losesPatience_58 : decode cX2_losesPatience 58 = .ok (.iconst 1, 1) := by decide +kernel
theorem dX2_losesPatience_59 : decode cX2_losesPatience 59 = .ok (.ireturn, 1) := by decide +kernel
theorem dX2_changePatience_0 : decode cX2_changePatience 0 = .ok (.aload_n 0, 1) := by decide +kernel
theorem dX2_changePatience_1 : decode cX2_changePatience 1 = .ok (.getfield 21, 3) := by decide +kernel
theorem dX2_changePatience_4 : decode cX2_changePatience 4 = .ok (.istore_n 2, 1) := by decide +kernel
theorem dX2_changePatience_5 : decode cX2_changePatience 5 = .ok (.aload_n 0, 1) := by decide +kernel
theorem dX2_changePatience_6 : decode cX2_changePatience 6 = .ok (.iload_n 1, 1) := by decide +kernel
theorem dX2_changePatience_7 : decode cX2_changePatience 7 = .ok (.putfield 21, 3) := by decide +kernel
theorem dX2_changePatience_10 : decode cX2_changePatience 10 = .ok (.iload_n 2, 1) := by decide +kernel
theorem dX2_changePatience_11 : decode cX2_changePatience 11 = .ok (.ireturn, 1) := by decide +kernel
theorem dX2_countOpen_0 : decode cX2_countOpen 0 = .ok (.iconst 0, 1) := by decide +kernel
theorem dX2_countOpen_1 : decode cX2_countOpen 1 = .ok (.istore_n 1, 1) := by decide +kernel
theorem dX2_countOpen_2 : decode cX2_countOpen 2 = .ok (.iconst 0, 1) := by decide +kernel
theorem dX2_countOpen_3 : decode cX2_countOpen 3 = .ok (.istore_n 2, 1) := by decide +kernel
theorem dX2_countOpen_4 : decode cX2_countOpen 4 = .ok (.iload_n 2, 1) := by decide +kernel
theorem dX2_countOpen_5 : decode cX2_countOpen 5 = .ok (.aload_n 0, 1) := by decide +kernel
theorem dX2_countOpen_6 : decode cX2_countOpen 6 = .ok (.getfield 9, 3) := by decide +kernel
theorem dX2_countOpen_9 : decode cX2_countOpen 9 = .ok (.if_icmp .ge 20, 3) := by decide +kernel
theorem dX2_countOpen_12 : decode cX2_countOpen 12 = .ok (.aload_n 0, 1) := by decide +kernel
theorem dX2_countOpen_13 : decode cX2_countOpen 13 = .ok (.iload_n 2, 1) := by decide +kernel
theorem dX2_countOpen_14 : decode cX2_countOpen 14 = .ok (.invokevirtual 136, 3) := by decide +kernel
theorem dX2_countOpen_17 : decode cX2_countOpen 17 = .ok (.ifCond .eq 6, 3) := by decide +kernel
theorem dX2_countOpen_20 : decode cX2_countOpen 20 = .ok (.iinc 1 1, 3) := by decide +kernel
theorem dX2_countOpen_23 : decode cX2_countOpen 23 = .ok (.iinc 2 1, 3) := by decide +kernel
theorem dX2_countOpen_26 : decode cX2_countOpen 26 = .ok (.goto (-22), 3) := by decide +kernel
theorem dX2_countOpen_29 : decode cX2_countOpen 29 = .ok (.iload_n 1, 1) := by decide +kernel
theorem dX2_countOpen_30 : decode cX2_countOpen 30 = .ok (.ireturn, 1) := by decide +kernel
theorem dX2_isOpen_0 : decode cX2_isOpen 0 = .ok (.iconst 0, 1) := by decide +kernel
theorem dX2_isOpen_1 : decode cX2_isOpen 1 = .ok (.istore_n 2, 1) := by decide +kernel
theorem dX2_isOpen_2 : decode cX2_isOpen 2 = .ok (.iload_n 2, 1) := by decide +kernel
theorem dX2_isOpen_3 : decode cX2_isOpen 3 = .ok (.bipush 6, 2) := by decide +kernel
theorem dX2_isOpen_5 : decode cX2_isOpen 5 = .ok (.if_icmp .ge 27, 3) := by decide +kernel
theorem dX2_isOpen_8 : decode cX2_isOpen 8 = .ok (.aload_n 0, 1) := by decide +kernel
theorem dX2_isOpen_9 : decode cX2_isOpen 9 = .ok (.iload_n 1, 1) := by decide +kernel
theorem dX2_isOpen_10 : decode cX2_isOpen 10 = .ok (.iload_n 2, 1) := by decide +kernel
theorem dX2_isOpen_11 : decode cX2_isOpen 11 = .ok (.invokevirtual 66, 3) := by decide +kernel
theorem dX2_isOpen_14 : decode cX2_isOpen 14 = .ok (.istore_n 3, 1) := by decide +kernel
theorem dX2_isOpen_15 : decode cX2_isOpen 15 = .ok (.iload_n 3, 1) := by decide +kernel
theorem dX2_isOpen_16 : decode cX2_isOpen 16 = .ok (.ifCond .eq 8, 3) := by decide +kernel
theorem dX2_isOpen_19 : decode cX2_isOpen 19 = .ok (.iload_n 3, 1) := by decide +kernel
theorem dX2_isOpen_20 : decode cX2_isOpen 20 = .ok (.iconst 1, 1) := by decide +kernel
theorem dX2_isOpen_21 : decode cX2_isOpen 21 = .ok (.if_icmp .ne 5, 3) := by decide +kernel
theorem dX2_isOpen_24 : decode cX2_isOpen 24 = .ok (.iconst 1, 1) := by decide +kernel
theorem dX2_isOpen_25 : decode cX2_isOpen 25 = .ok (.ireturn, 1) := by decide +kernel
theorem dX2_isOpen_26 : decode cX2_isOpen 26 = .ok (.iinc 2 1, 3) := by decide +kernel
theorem dX2_isOpen_29 : decode cX2_isOpen 29 = .ok (.goto (-27), 3) := by decide +kernel
theorem dX2_isOpen_32 : decode cX2_isOpen 32 = .ok (.iconst 0, 1) := by decide +kernel
theorem dX2_isOpen_33 : decode cX2_isOpen 33 = .ok (.ireturn, 1) := by decide +kernel
theorem dX2_countStuck_0 : decode cX2_countStuck 0 = .ok (.iconst 0, 1) := by decide +kernel
theorem dX2_countStuck_1 : decode cX2_countStuck 1 = .ok (.istore_n 1, 1) := by decide +kernel
theorem dX2_countStuck_2 : decode cX2_countStuck 2 = .ok (.iconst 0, 1) := by decide +kernel
theorem dX2_countStuck_3 : decode cX2_countStuck 3 = .ok (.istore_n 2, 1) := by decide +kernel
theorem dX2_countStuck_4 : decode cX2_countStuck 4 = .ok (.iload_n 2, 1) := by decide +kernel
theorem dX2_countStuck_5 : decode cX2_countStuck 5 = .ok (.aload_n 0, 1) := by decide +kernel
theorem dX2_countStuck_6 : decode cX2_countStuck 6 = .ok (.getfield 9, 3) := by decide +kernel
theorem dX2_countStuck_9 : decode cX2_countStuck 9 = .ok (.if_icmp .ge 20, 3) := by decide +kernel
theorem dX2_countStuck_12 : decode cX2_countStuck 12 = .ok (.aload_n 0, 1) := by decide +kernel
theorem dX2_countStuck_13 : decode cX2_countStuck 13 = .ok (.iload_n 2, 1) := by decide +kernel
theorem dX2_countStuck_14 : decode cX2_countStuck 14 = .ok (.invokevirtual 139, 3) := by decide +kernel
theorem dX2_countStuck_17 : decode cX2_countStuck 17 = .ok (.ifCond .eq 6, 3) := by decide +kernel
theorem dX2_countStuck_20 : decode cX2_countStuck 20 = .ok (.iinc 1 1, 3) := by decide +kernel
theorem dX2_countStuck_23 : decode cX2_countStuck 23 = .ok (.iinc 2 1, 3) := by decide +kernel
theorem dX2_countStuck_26 : decode cX2_countStuck 26 = .ok (.goto (-22), 3) := by decide +kernel
theorem dX2_countStuck_29 : decode cX2_countStuck 29 = .ok (.iload_n 1, 1) := by decide +kernel
theorem dX2_countStuck_30 : decode cX2_countStuck 30 = .ok (.ireturn, 1) := by decide +kernel
theorem dX2_isStuck_0 : decode cX2_isStuck 0 = .ok (.iconst 0, 1) := by decide +kernel
theorem dX2_isStuck_1 : decode cX2_isStuck 1 = .ok (.istore_n 2, 1) := by decide +kernel
theorem dX2_isStuck_2 : decode cX2_isStuck 2 = .ok (.iconst 0, 1) := by decide +kernel
theorem dX2_isStuck_3 : decode cX2_isStuck 3 = .ok (.istore_n 3, 1) := by decide +kernel
theorem dX2_isStuck_4 : decode cX2_isStuck 4 = .ok (.iload_n 3, 1) := by decide +kernel
theorem dX2_isStuck_5 : decode cX2_isStuck 5 = .ok (.bipush 6, 2) := by decide +kernel
theorem dX2_isStuck_7 : decode cX2_isStuck 7 = .ok (.if_icmp .ge 47, 3) := by decide +kernel
theorem dX2_isStuck_10 : decode cX2_isStuck 10 = .ok (.aload_n 0, 1) := by decide +kernel
theorem dX2_isStuck_11 : decode cX2_isStuck 11 = .ok (.iload_n 1, 1) := by decide +kernel
theorem dX2_isStuck_12 : decode cX2_isStuck 12 = .ok (.iload_n 3, 1) := by decide +kernel
theorem dX2_isStuck_13 : decode cX2_isStuck 13 = .ok (.invokevirtual 142, 3) := by decide +kernel
theorem dX2_isStuck_16 : decode cX2_isStuck 16 = .ok (.iconst (-1), 1) := by decide +kernel
theorem dX2_isStuck_17 : decode cX2_isStuck 17 = .ok (.if_icmp .eq 5, 3) := by decide +kernel
theorem dX2_isStuck_20 : decode cX2_isStuck 20 = .ok (.iconst 0, 1) := by decide +kernel
theorem dX2_isStuck_21 : decode cX2_isStuck 21 = .ok (.ireturn, 1) := by decide +kernel
theorem dX2_isStuck_22 : decode cX2_isStuck 22 = .ok (.iload_n 2, 1) := by decide +kernel
theorem dX2_isStuck_23 : decode cX2_isStuck 23 = .ok (.aload_n 0, 1) := by decide +kernel
theorem dX2_isStuck_24 : decode cX2_isStuck 24 = .ok (.iload_n 3, 1) := by decide +kernel
theorem dX2_isStuck_25 : decode cX2_isStuck 25 = .ok (.invokevirtual 79, 3) := by decide +kernel
theorem dX2_isStuck_28 : decode cX2_isStuck 28 = .ok (.ifCond .eq 17, 3) := by decide +kernel
theorem dX2_isStuck_31 : decode cX2_isStuck 31 = .ok (.aload_n 0, 1) := by decide +kernel
theorem dX2_isStuck_32 : decode cX2_isStuck 32 = .ok (.iload_n 1, 1) := by decide +kernel
theorem dX2_isStuck_33 : decode cX2_isStuck 33 = .ok (.iload_n 3, 1) := by decide +kernel
theorem dX2_isStuck_34 : decode cX2_isStuck 34 = .ok (.invokevirtual 66, 3) := by decide +kernel
theorem dX2_isStuck_37 : decode cX2_isStuck 37 = .ok (.iconst 1, 1) := by decide +kernel
theorem dX2_isStuck_38 : decode cX2_isStuck 38 = .ok (.if_icmp .ne 7, 3) := by decide +kernel
theorem dX2_isStuck_41 : decode cX2_isStuck 41 = .ok (.iconst 1, 1) := by decide +kernel
theorem dX2_isStuck_42 : decode cX2_isStuck 42 = .ok (.goto 4, 3) := by decide +kernel
theorem dX2_isStuck_45 : decode cX2_isStuck 45 = .ok (.iconst 0, 1) := by decide +kernel
theorem dX2_isStuck_46 : decode cX2_isStuck 46 = .ok (.ior, 1) := by decide +kernel
theorem dX2_isStuck_47 : decode cX2_isStuck 47 = .ok (.istore_n 2, 1) := by decide +kernel
theorem dX2_isStuck_48 : decode cX2_isStuck 48 = .ok (.iinc 3 1, 3) := by decide +kernel
theorem dX2_isStuck_51 : decode cX2_isStuck 51 = .ok (.goto (-47), 3) := by decide +kernel
theorem dX2_isStuck_54 : decode cX2_isStuck 54 = .ok (.iload_n 2, 1) := by decide +kernel
theorem dX2_isStuck_55 : decode cX2_isStuck 55 = .ok (.ireturn, 1) := by decide +kernel
theorem dX2_countMembers_0 : decode cX2_countMembers 0 = .ok (.aload_n 0, 1) := by decide +kernel
theorem dX2_countMembers_1 : decode cX2_countMembers 1 = .ok (.getfield 9, 3) := by decide +kernel
theorem dX2_countMembers_4 : decode cX2_countMembers 4 = .ok (.bipush 6, 2) := by decide +kernel
theorem dX2_countMembers_6 : decode cX2_countMembers 6 = .ok (.imul, 1) := by decide +kernel
theorem dX2_countMembers_7 : decode cX2_countMembers 7 = .ok (.aload_n 0, 1) := by decide +kernel
theorem dX2_countMembers_8 : decode cX2_countMembers 8 = .ok (.iconst (-1), 1) := by decide +kernel
theorem dX2_countMembers_9 : decode cX2_countMembers 9 = .ok (.invokevirtual 122, 3) := by decide +kernel
theorem dX2_countMembers_12 : decode cX2_countMembers 12 = .ok (.isub, 1) := by decide +kernel
theorem dX2_countMembers_13 : decode cX2_countMembers 13 = .ok (.ireturn, 1) := by decide +kernel
theorem dX2_countInState_0 : decode cX2_countInState 0 = .ok (.iconst 0, 1) := by decide +kernel
theorem dX2_countInState_1 : decode cX2_countInState 1 = .ok (.istore_n 2, 1) := by decide +kernel
theorem dX2_countInState_2 : decode cX2_countInState 2 = .ok (.iconst 0, 1) := by decide +kernel
theorem dX2_countInState_3 : decode cX2_countInState 3 = .ok (.istore_n 3, 1) := by decide +kernel
theorem dX2_countInState_4 : decode cX2_countInState 4 = .ok (.iload_n 3, 1) := by decide +kernel
theorem dX2_countInState_5 : decode cX2_countInState 5 = .ok (.aload_n 0, 1) := by decide +kernel
theorem dX2_countInState_6 : decode cX2_countInState 6 = .ok (.getfield 9, 3) := by decide +kernel
theorem dX2_countInState_9 : decode cX2_countInState 9 = .ok (.if_icmp .ge 39, 3) := by decide +kernel
theorem dX2_countInState_12 : decode cX2_countInState 12 = .ok (.iconst 0, 1) := by decide +kernel
theorem dX2_countInState_13 : decode cX2_countInState 13 = .ok (.istore 4, 2) := by decide +kernel
theorem dX2_countInState_15 : decode cX2_countInState 15 = .ok (.iload 4, 2) := by decide +kernel
theorem dX2_countInState_17 : decode cX2_countInState 17 = .ok (.bipush 6, 2) := by decide +kernel
theorem dX2_countInState_19 : decode cX2_countInState 19 = .ok (.if_icmp .ge 23, 3) := by decide +kernel
theorem dX2_countInState_22 : decode cX2_countInState 22 = .ok (.aload_n 0, 1) := by decide +kernel
theorem dX2_countInState_23 : decode cX2_countInState 23 = .ok (.iload_n 3, 1) := by decide +kernel
theorem dX2_countInState_24 : decode cX2_countInState 24 = .ok (.iload 4, 2) := by decide +kernel
theorem dX2_countInState_26 : decode cX2_countInState 26 = .ok (.invokevirtual 66, 3) := by decide +kernel
theorem dX2_countInState_29 : decode cX2_countInState 29 = .ok (.iload_n 1, 1) := by decide +kernel
theorem dX2_countInState_30 : decode cX2_countInState 30 = .ok (.if_icmp .ne 6, 3) := by decide +kernel
theorem dX2_countInState_33 : decode cX2_countInState 33 = .ok (.iinc 2 1, 3) := by decide +kernel
theorem dX2_countInState_36 : decode cX2_countInState 36 = .ok (.iinc 4 1, 3) := by decide +kernel
theorem dX2_countInState_39 : decode cX2_countInState 39 = .ok (.goto (-24), 3) := by decide +kernel
theorem dX2_countInState_42 : decode cX2_countInState 42 = .ok (.iinc 3 1, 3) := by decide +kernel
theorem dX2_countInState_45 : decode cX2_countInState 45 = .ok (.goto (-41), 3) := by decide +kernel
theorem dX2_countInState_48 : decode cX2_countInState 48 = .ok (.iload_n 2, 1) := by decide +kernel
theorem dX2_countInState_49 : decode cX2_countInState 49 = .ok (.ireturn, 1) := by decide +kernel
theorem dX2_reasonAgainstYes_0 : decode cX2_reasonAgainstYes 0 = .ok (.aload_n 0, 1) := by decide +kernel
theorem dX2_reasonAgainstYes_1 : decode cX2_reasonAgainstYes 1 = .ok (.iload_n 1, 1) := by decide +kernel
theorem dX2_reasonAgainstYes_2 : decode cX2_reasonAgainstYes 2 = .ok (.iload_n 2, 1) := by decide +kernel
theorem dX2_reasonAgainstYes_3 : decode cX2_reasonAgainstYes 3 = .ok (.invokevirtual 66, 3) := by decide +kernel
theorem dX2_reasonAgainstYes_6 : decode cX2_reasonAgainstYes 6 = .ok (.istore_n 3, 1) := by decide +kernel
theorem dX2_reasonAgainstYes_7 : decode cX2_reasonAgainstYes 7 = .ok (.iload_n 3, 1) := by decide +kernel
theorem dX2_reasonAgainstYes_8 : decode cX2_reasonAgainstYes 8 = .ok (.iconst (-1), 1) := by decide +kernel
theorem dX2_reasonAgainstYes_9 : decode cX2_reasonAgainstYes 9 = .ok (.if_icmp .ne 5, 3) := by decide +kernel
theorem dX2_reasonAgainstYes_12 : decode cX2_reasonAgainstYes 12 = .ok (.iconst 1, 1) := by decide +kernel
theorem dX2_reasonAgainstYes_13 : decode cX2_reasonAgainstYes 13 = .ok (.ireturn, 1) := by decide +kernel
theorem dX2_reasonAgainstYes_14 : decode cX2_reasonAgainstYes 14 = .ok (.aload_n 0, 1) := by decide +kernel
theorem dX2_reasonAgainstYes_15 : decode cX2_reasonAgainstYes 15 = .ok (.iload_n 2, 1) := by decide +kernel
theorem dX2_reasonAgainstYes_16 : decode cX2_reasonAgainstYes 16 = .ok (.invokevirtual 79, 3) := by decide +kernel
theorem dX2_reasonAgainstYes_19 : decode cX2_reasonAgainstYes 19 = .ok (.ifCond .ne 5, 3) := by decide +kernel
theorem dX2_reasonAgainstYes_22 : decode cX2_reasonAgainstYes 22 = .ok (.iconst 2, 1) := by decide +kernel
theorem dX2_reasonAgainstYes_23 : decode cX2_reasonAgainstYes 23 = .ok (.ireturn, 1) := by decide +kernel
theorem dX2_reasonAgainstYes_24 : decode cX2_reasonAgainstYes 24 = .ok (.iload_n 3, 1) := by decide +kernel
theorem dX2_reasonAgainstYes_25 : decode cX2_reasonAgainstYes 25 = .ok (.ifCond .eq 5, 3) := by decide +kernel
theorem dX2_reasonAgainstYes_28 : decode cX2_reasonAgainstYes 28 = .ok (.iconst 3, 1) := by decide +kernel
theorem dX2_reasonAgainstYes_29 : decode cX2_reasonAgainstYes 29 = .ok (.ireturn, 1) := by decide +kernel
theorem dX2_reasonAgainstYes_30 : decode cX2_reasonAgainstYes 30 = .ok (.aload_n 0, 1) := by decide +kernel
theorem dX2_reasonAgainstYes_31 : decode cX2_reasonAgainstYes 31 = .ok (.iload_n 1, 1) := by decide +kernel
theorem dX2_reasonAgainstYes_32 : decode cX2_reasonAgainstYes 32 = .ok (.iload_n 2, 1) := by decide +kernel
theorem dX2_reasonAgainstYes_33 : decode cX2_reasonAgainstYes 33 = .ok (.invokevirtual 95, 3) := by decide +kernel
theorem dX2_reasonAgainstYes_36 : decode cX2_reasonAgainstYes 36 = .ok (.ifCond .eq 7, 3) := by decide +kernel
theorem dX2_reasonAgainstYes_39 : decode cX2_reasonAgainstYes 39 = .ok (.iconst 4, 1) := by decide +kernel
theorem dX2_reasonAgainstYes_40 : decode cX2_reasonAgainstYes 40 = .ok (.goto 4, 3) := by decide +kernel
theorem dX2_reasonAgainstYes_43 : decode cX2_reasonAgainstYes 43 = .ok (.iconst 0, 1) := by decide +kernel
theorem dX2_reasonAgainstYes_44 : decode cX2_reasonAgainstYes 44 = .ok (.ireturn, 1) := by decide +kernel
theorem dX2_helperFor_0 : decode cX2_helperFor 0 = .ok (.aload_n 0, 1) := by decide +kernel
theorem dX2_helperFor_1 : decode cX2_helperFor 1 = .ok (.iload_n 1, 1) := by decide +kernel
theorem dX2_helperFor_2 : decode cX2_helperFor 2 = .ok (.invokevirtual 82, 3) := by decide +kernel
theorem dX2_helperFor_5 : decode cX2_helperFor 5 = .ok (.istore_n 3, 1) := by decide +kernel
theorem dX2_helperFor_6 : decode cX2_helperFor 6 = .ok (.iconst 0, 1) := by decide +kernel
theorem dX2_helperFor_7 : decode cX2_helperFor 7 = .ok (.istore 4, 2) := by decide +kernel
theorem dX2_helperFor_9 : decode cX2_helperFor 9 = .ok (.iload 4, 2) := by decide +kernel
theorem dX2_helperFor_11 : decode cX2_helperFor 11 = .ok (.bipush 6, 2) := by decide +kernel
theorem dX2_helperFor_13 : decode cX2_helperFor 13 = .ok (.if_icmp .ge 54, 3) := by decide +kernel
theorem dX2_helperFor_16 : decode cX2_helperFor 16 = .ok (.iload 4, 2) := by decide +kernel
theorem dX2_helperFor_18 : decode cX2_helperFor 18 = .ok (.iload_n 3, 1) := by decide +kernel
theorem dX2_helperFor_19 : decode cX2_helperFor 19 = .ok (.if_icmp .eq 16, 3) := by decide +kernel
theorem dX2_helperFor_22 : decode cX2_helperFor 22 = .ok (.aload_n 0, 1) := by decide +kernel
theorem dX2_helperFor_23 : decode cX2_helperFor 23 = .ok (.iload_n 1, 1) := by decide +kernel
theorem dX2_helperFor_24 : decode cX2_helperFor 24 = .ok (.iload 4, 2) := by decide +kernel
theorem dX2_helperFor_26 : decode cX2_helperFor 26 = .ok (.invokevirtual 66, 3) := by decide +kernel
theorem dX2_helperFor_29 : decode cX2_helperFor 29 = .ok (.invokestatic 145, 3) := by decide +kernel
theorem dX2_helperFor_32 : decode cX2_helperFor 32 = .ok (.ifCond .eq 7, 3) := by decide +kernel
theorem dX2_helperFor_35 : decode cX2_helperFor 35 = .ok (.iconst 1, 1) := by decide +kernel
theorem dX2_helperFor_36 : decode cX2_helperFor 36 = .ok (.goto 4, 3) := by decide +kernel
theorem dX2_helperFor_39 : decode cX2_helperFor 39 = .ok (.iconst 0, 1) := by decide +kernel
theorem dX2_helperFor_40 : decode cX2_helperFor 40 = .ok (.istore 5, 2) := by decide +kernel
theorem dX2_helperFor_42 : decode cX2_helperFor 42 = .ok (.iload 5, 2) := by decide +kernel
theorem dX2_helperFor_44 : decode cX2_helperFor 44 = .ok (.ifCond .eq 17, 3) := by decide +kernel
theorem dX2_helperFor_47 : decode cX2_helperFor 47 = .ok (.aload_n 0, 1) := by decide +kernel
theorem dX2_helperFor_48 : decode cX2_helperFor 48 = .ok (.iload_n 1, 1) := by decide +kernel
theorem dX2_helperFor_49 : decode cX2_helperFor 49 = .ok (.iload_n 2, 1) := by decide +kernel
theorem dX2_helperFor_50 : decode cX2_helperFor 50 = .ok (.iload 4, 2) := by decide +kernel
theorem dX2_helperFor_52 : decode cX2_helperFor 52 = .ok (.invokevirtual 115, 3) := by decide +kernel
theorem dX2_helperFor_55 : decode cX2_helperFor 55 = .ok (.ifCond .eq 6, 3) := by decide +kernel
theorem dX2_helperFor_58 : decode cX2_helperFor 58 = .ok (.iload 4, 2) := by decide +kernel
theorem dX2_helperFor_60 : decode cX2_helperFor 60 = .ok (.ireturn, 1) := by decide +kernel
theorem dX2_helperFor_61 : decode cX2_helperFor 61 = .ok (.iinc 4 1, 3) := by decide +kernel
theorem dX2_helperFor_64 : decode cX2_helperFor 64 = .ok (.goto (-55), 3) := by decide +kernel
theorem dX2_helperFor_67 : decode cX2_helperFor 67 = .ok (.iconst (-1), 1) := by decide +kernel
theorem dX2_helperFor_68 : decode cX2_helperFor 68 = .ok (.ireturn, 1) := by decide +kernel
theorem dX2_isAnswer_0 : decode cX2_isAnswer 0 = .ok (.iload_n 0, 1) := by decide +kernel
theorem dX2_isAnswer_1 : decode cX2_isAnswer 1 = .ok (.ifCond .eq 10, 3) := by decide +kernel
theorem dX2_isAnswer_4 : decode cX2_isAnswer 4 = .ok (.iload_n 0, 1) := by decide +kernel
theorem dX2_isAnswer_5 : decode cX2_isAnswer 5 = .ok (.invokestatic 69, 3) := by decide +kernel
theorem dX2_isAnswer_8 : decode cX2_isAnswer 8 = .ok (.ifCond .eq 7, 3) := by decide +kernel
theorem dX2_isAnswer_11 : decode cX2_isAnswer 11 = .ok (.iconst 1, 1) := by decide +kernel
theorem dX2_isAnswer_12 : decode cX2_isAnswer 12 = .ok (.goto 4, 3) := by decide +kernel
theorem dX2_isAnswer_15 : decode cX2_isAnswer 15 = .ok (.iconst 0, 1) := by decide +kernel
theorem dX2_isAnswer_16 : decode cX2_isAnswer 16 = .ok (.ireturn, 1) := by decide +kernel
theorem dX2_hash_0 : decode cX2_hash 0 = .ok (.ldc2_w 148, 3) := by decide +kernel
theorem dX2_hash_3 : decode cX2_hash 3 = .ok (.lstore_n 1, 1) := by decide +kernel
theorem dX2_hash_4 : decode cX2_hash 4 = .ok (.ldc2_w 150, 3) := by decide +kernel
theorem dX2_hash_7 : decode cX2_hash 7 = .ok (.lload_n 1, 1) := by decide +kernel
theorem dX2_hash_8 : decode cX2_hash 8 = .ok (.lmul, 1) := by decide +kernel
theorem dX2_hash_9 : decode cX2_hash 9 = .ok (.aload_n 0, 1) := by decide +kernel
theorem dX2_hash_10 : decode cX2_hash 10 = .ok (.getfield 9, 3) := by decide +kernel
theorem dX2_hash_13 : decode cX2_hash 13 = .ok (.i2l, 1) := by decide +kernel
theorem dX2_hash_14 : decode cX2_hash 14 = .ok (.ladd, 1) := by decide +kernel
theorem dX2_hash_15 : decode cX2_hash 15 = .ok (.lstore_n 1, 1) := by decide +kernel
theorem dX2_hash_16 : decode cX2_hash 16 = .ok (.ldc2_w 150, 3) := by decide +kernel
theorem dX2_hash_19 : decode cX2_hash 19 = .ok (.lload_n 1, 1) := by decide +kernel
theorem dX2_hash_20 : decode cX2_hash 20 = .ok (.lmul, 1) := by decide +kernel
theorem dX2_hash_21 : decode cX2_hash 21 = .ok (.aload_n 0, 1) := by decide +kernel
theorem dX2_hash_22 : decode cX2_hash 22 = .ok (.invokevirtual 152, 3) := by decide +kernel
theorem dX2_hash_25 : decode cX2_hash 25 = .ok (.i2l, 1) := by decide +kernel
theorem dX2_hash_26 : decode cX2_hash 26 = .ok (.ladd, 1) := by decide +kernel
theorem dX2_hash_27 : decode cX2_hash 27 = .ok (.lstore_n 1, 1) := by decide +kernel
theorem dX2_hash_28 : decode cX2_hash 28 = .ok (.ldc2_w 150, 3) := by decide +kernel
theorem dX2_hash_31 : decode cX2_hash 31 = .ok (.lload_n 1, 1) := by decide +kernel
theorem dX2_hash_32 : decode cX2_hash 32 = .ok (.lmul, 1) := by decide +kernel
theorem dX2_hash_33 : decode cX2_hash 33 = .ok (.aload_n 0, 1) := by decide +kernel
theorem dX2_hash_34 : decode cX2_hash 34 = .ok (.invokevirtual 156, 3) := by decide +kernel
theorem dX2_hash_37 : decode cX2_hash 37 = .ok (.i2l, 1) := by decide +kernel
theorem dX2_hash_38 : decode cX2_hash 38 = .ok (.ladd, 1) := by decide +kernel
theorem dX2_hash_39 : decode cX2_hash 39 = .ok (.lstore_n 1, 1) := by decide +kernel
theorem dX2_hash_40 : decode cX2_hash 40 = .ok (.ldc2_w 150, 3) := by decide +kernel
theorem dX2_hash_43 : decode cX2_hash 43 = .ok (.lload_n 1, 1) := by decide +kernel
theorem dX2_hash_44 : decode cX2_hash 44 = .ok (.lmul, 1) := by decide +kernel
theorem dX2_hash_45 : decode cX2_hash 45 = .ok (.aload_n 0, 1) := by decide +kernel
theorem dX2_hash_46 : decode cX2_hash 46 = .ok (.getfield 18, 3) := by decide +kernel
theorem dX2_hash_49 : decode cX2_hash 49 = .ok (.i2l, 1) := by decide +kernel
theorem dX2_hash_50 : decode cX2_hash 50 = .ok (.ladd, 1) := by decide +kernel
theorem dX2_hash_51 : decode cX2_hash 51 = .ok (.lstore_n 1, 1) := by decide +kernel
theorem dX2_hash_52 : decode cX2_hash 52 = .ok (.iconst 0, 1) := by decide +kernel
theorem dX2_hash_53 : decode cX2_hash 53 = .ok (.istore_n 3, 1) := by decide +kernel
theorem dX2_hash_54 : decode cX2_hash 54 = .ok (.iload_n 3, 1) := by decide +kernel
theorem dX2_hash_55 : decode cX2_hash 55 = .ok (.bipush 6, 2) := by decide +kernel
theorem dX2_hash_57 : decode cX2_hash 57 = .ok (.if_icmp .ge 16, 3) := by decide +kernel
theorem dX2_hash_60 : decode cX2_hash 60 = .ok (.aload_n 0, 1) := by decide +kernel
theorem dX2_hash_61 : decode cX2_hash 61 = .ok (.lload_n 1, 1) := by decide +kernel
theorem dX2_hash_62 : decode cX2_hash 62 = .ok (.iload_n 3, 1) := by decide +kernel
theorem dX2_hash_63 : decode cX2_hash 63 = .ok (.invokevirtual 159, 3) := by decide +kernel
theorem dX2_hash_66 : decode cX2_hash 66 = .ok (.lstore_n 1, 1) := by decide +kernel
theorem dX2_hash_67 : decode cX2_hash 67 = .ok (.iinc 3 1, 3) := by decide +kernel
theorem dX2_hash_70 : decode cX2_hash 70 = .ok (.goto (-16), 3) := by decide +kernel
theorem dX2_hash_73 : decode cX2_hash 73 = .ok (.iconst 0, 1) := by decide +kernel
theorem dX2_hash_74 : decode cX2_hash 74 = .ok (.istore_n 3, 1) := by decide +kernel
theorem dX2_hash_75 : decode cX2_hash 75 = .ok (.iload_n 3, 1) := by decide +kernel
theorem dX2_hash_76 : decode cX2_hash 76 = .ok (.aload_n 0, 1) := by decide +kernel
theorem dX2_hash_77 : decode cX2_hash 77 = .ok (.getfield 9, 3) := by decide +kernel
theorem dX2_hash_80 : decode cX2_hash 80 = .ok (.if_icmp .ge 16, 3) := by decide +kernel
theorem dX2_hash_83 : decode cX2_hash 83 = .ok (.aload_n 0, 1) := by decide +kernel
theorem dX2_hash_84 : decode cX2_hash 84 = .ok (.lload_n 1, 1) := by decide +kernel
theorem dX2_hash_85 : decode cX2_hash 85 = .ok (.iload_n 3, 1) := by decide +kernel
theorem dX2_hash_86 : decode cX2_hash 86 = .ok (.invokevirtual 163, 3) := by decide +kernel
theorem dX2_hash_89 : decode cX2_hash 89 = .ok (.lstore_n 1, 1) := by decide +kernel
theorem dX2_hash_90 : decode cX2_hash 90 = .ok (.iinc 3 1, 3) := by decide +kernel
theorem dX2_hash_93 : decode cX2_hash 93 = .ok (.goto (-18), 3) := by decide +kernel
theorem dX2_hash_96 : decode cX2_hash 96 = .ok (.lload_n 1, 1) := by decide +kernel
theorem dX2_hash_97 : decode cX2_hash 97 = .ok (.lreturn, 1) := by decide +kernel
theorem dX2_hashSite_0 : decode cX2_hashSite 0 = .ok (.ldc2_w 150, 3) := by decide +kernel
theorem dX2_hashSite_3 : decode cX2_hashSite 3 = .ok (.lload_n 1, 1) := by decide +kernel
theorem dX2_hashSite_4 : decode cX2_hashSite 4 = .ok (.lmul, 1) := by decide +kernel
theorem dX2_hashSite_5 : decode cX2_hashSite 5 = .ok (.aload_n 0, 1) := by decide +kernel
theorem dX2_hashSite_6 : decode cX2_hashSite 6 = .ok (.iload_n 3, 1) := by decide +kernel
theorem dX2_hashSite_7 : decode cX2_hashSite 7 = .ok (.invokevirtual 79, 3) := by decide +kernel
theorem dX2_hashSite_10 : decode cX2_hashSite 10 = .ok (.ifCond .eq 7, 3) := by decide +kernel
theorem dX2_hashSite_13 : decode cX2_hashSite 13 = .ok (.iconst 1, 1) := by decide +kernel
theorem dX2_hashSite_14 : decode cX2_hashSite 14 = .ok (.goto 4, 3) := by decide +kernel
theorem dX2_hashSite_17 : decode cX2_hashSite 17 = .ok (.iconst 0, 1) := by decide +kernel
theorem dX2_hashSite_18 : decode cX2_hashSite 18 = .ok (.i2l, 1) := by decide +kernel
theorem dX2_hashSite_19 : decode cX2_hashSite 19 = .ok (.ladd, 1) := by decide +kernel
theorem dX2_hashSite_20 : decode cX2_hashSite 20 = .ok (.lstore 4, 2) := by decide +kernel
theorem dX2_hashSite_22 : decode cX2_hashSite 22 = .ok (.ldc2_w 150, 3) := by decide +kernel
theorem dX2_hashSite_25 : decode cX2_hashSite 25 = .ok (.lload 4, 2) := by decide +kernel
theorem dX2_hashSite_27 : decode cX2_hashSite 27 = .ok (.lmul, 1) := by decide +kernel
theorem dX2_hashSite_28 : decode cX2_hashSite 28 = .ok (.aload_n 0, 1) := by decide +kernel
theorem dX2_hashSite_29 : decode cX2_hashSite 29 = .ok (.iload_n 3, 1) := by decide +kernel
theorem dX2_hashSite_30 : decode cX2_hashSite 30 = .ok (.invokevirtual 166, 3) := by decide +kernel
theorem dX2_hashSite_33 : decode cX2_hashSite 33 = .ok (.i2l, 1) := by decide +kernel
theorem dX2_hashSite_34 : decode cX2_hashSite 34 = .ok (.ladd, 1) := by decide +kernel
theorem dX2_hashSite_35 : decode cX2_hashSite 35 = .ok (.lstore 4, 2) := by decide +kernel
theorem dX2_hashSite_37 : decode cX2_hashSite 37 = .ok (.aload_n 0, 1) := by decide +kernel
theorem dX2_hashSite_38 : decode cX2_hashSite 38 = .ok (.iload_n 3, 1) := by decide +kernel
theorem dX2_hashSite_39 : decode cX2_hashSite 39 = .ok (.invokevirtual 75, 3) := by decide +kernel
theorem dX2_hashSite_42 : decode cX2_hashSite 42 = .ok (.istore 6, 2) := by decide +kernel
theorem dX2_hashSite_44 : decode cX2_hashSite 44 = .ok (.ldc2_w 150, 3) := by decide +kernel
theorem dX2_hashSite_47 : decode cX2_hashSite 47 = .ok (.lload 4, 2) := by decide +kernel
theorem dX2_hashSite_49 : decode cX2_hashSite 49 = .ok (.lmul, 1) := by decide +kernel
theorem dX2_hashSite_50 : decode cX2_hashSite 50 = .ok (.iload 6, 2) := by decide +kernel
theorem dX2_hashSite_52 : decode cX2_hashSite 52 = .ok (.i2l, 1) := by decide +kernel
theorem dX2_hashSite_53 : decode cX2_hashSite 53 = .ok (.ladd, 1) := by decide +kernel
theorem dX2_hashSite_54 : decode cX2_hashSite 54 = .ok (.lstore 4, 2) := by decide +kernel
theorem dX2_hashSite_56 : decode cX2_hashSite 56 = .ok (.iconst 0, 1) := by decide +kernel
theorem dX2_hashSite_57 : decode cX2_hashSite 57 = .ok (.istore 7, 2) := by decide +kernel
theorem dX2_hashSite_59 : decode cX2_hashSite 59 = .ok (.iload 7, 2) := by decide +kernel
theorem dX2_hashSite_61 : decode cX2_hashSite 61 = .ok (.iload 6, 2) := by decide +kernel
theorem dX2_hashSite_63 : decode cX2_hashSite 63 = .ok (.if_icmp .ge 26, 3) := by decide +kernel
theorem dX2_hashSite_66 : decode cX2_hashSite 66 = .ok (.ldc2_w 150, 3) := by decide +kernel
theorem dX2_hashSite_69 : decode cX2_hashSite 69 = .ok (.lload 4, 2) := by decide +kernel
theorem dX2_hashSite_71 : decode cX2_hashSite 71 = .ok (.lmul, 1) := by decide +kernel
theorem dX2_hashSite_72 : decode cX2_hashSite 72 = .ok (.aload_n 0, 1) := by decide +kernel
theorem dX2_hashSite_73 : decode cX2_hashSite 73 = .ok (.iload_n 3, 1) := by decide +kernel
theorem dX2_hashSite_74 : decode cX2_hashSite 74 = .ok (.iload 7, 2) := by decide +kernel
theorem dX2_hashSite_76 : decode cX2_hashSite 76 = .ok (.invokevirtual 169, 3) := by decide +kernel
theorem dX2_hashSite_79 : decode cX2_hashSite 79 = .ok (.i2l, 1) := by decide +kernel
theorem dX2_hashSite_80 : decode cX2_hashSite 80 = .ok (.ladd, 1) := by decide +kernel
theorem dX2_hashSite_81 : decode cX2_hashSite 81 = .ok (.lstore 4, 2) := by decide +kernel
theorem dX2_hashSite_83 : decode cX2_hashSite 83 = .ok (.iinc 7 1, 3) := by decide +kernel
theorem dX2_hashSite_86 : decode cX2_hashSite 86 = .ok (.goto (-27), 3) := by decide +kernel
theorem dX2_hashSite_89 : decode cX2_hashSite 89 = .ok (.lload 4, 2) := by decide +kernel
theorem dX2_hashSite_91 : decode cX2_hashSite 91 = .ok (.lreturn, 1) := by decide +kernel
theorem dX2_hashDeal_0 : decode cX2_hashDeal 0 = .ok (.ldc2_w 150, 3) := by decide +kernel
theorem dX2_hashDeal_3 : decode cX2_hashDeal 3 = .ok (.lload_n 1, 1) := by decide +kernel
theorem dX2_hashDeal_4 : decode cX2_hashDeal 4 = .ok (.lmul, 1) := by decide +kernel
theorem dX2_hashDeal_5 : decode cX2_hashDeal 5 = .ok (.aload_n 0, 1) := by decide +kernel
theorem dX2_hashDeal_6 : decode cX2_hashDeal 6 = .ok (.iload_n 3, 1) := by decide +kernel
theorem dX2_hashDeal_7 : decode cX2_hashDeal 7 = .ok (.invokevirtual 82, 3) := by decide +kernel
theorem dX2_hashDeal_10 : decode cX2_hashDeal 10 = .ok (.i2l, 1) := by decide +kernel
theorem dX2_hashDeal_11 : decode cX2_hashDeal 11 = .ok (.ladd, 1) := by decide +kernel
theorem dX2_hashDeal_12 : decode cX2_hashDeal 12 = .ok (.lstore 4, 2) := by decide +kernel
theorem dX2_hashDeal_14 : decode cX2_hashDeal 14 = .ok (.ldc2_w 150, 3) := by decide +kernel
theorem dX2_hashDeal_17 : decode cX2_hashDeal 17 = .ok (.lload 4, 2) := by decide +kernel
theorem dX2_hashDeal_19 : decode cX2_hashDeal 19 = .ok (.lmul, 1) := by decide +kernel
theorem dX2_hashDeal_20 : decode cX2_hashDeal 20 = .ok (.aload_n 0, 1) := by decide +kernel
theorem dX2_hashDeal_21 : decode cX2_hashDeal 21 = .ok (.iload_n 3, 1) := by decide +kernel
theorem dX2_hashDeal_22 : decode cX2_hashDeal 22 = .ok (.invokevirtual 85, 3) := by decide +kernel
theorem dX2_hashDeal_25 : decode cX2_hashDeal 25 = .ok (.i2l, 1) := by decide +kernel
theorem dX2_hashDeal_26 : decode cX2_hashDeal 26 = .ok (.ladd, 1) := by decide +kernel
theorem dX2_hashDeal_27 : decode cX2_hashDeal 27 = .ok (.lstore 4, 2) := by decide +kernel
theorem dX2_hashDeal_29 : decode cX2_hashDeal 29 = .ok (.iconst 0, 1) := by decide +kernel
theorem dX2_hashDeal_30 : decode cX2_hashDeal 30 = .ok (.istore 6, 2) := by decide +kernel
theorem dX2_hashDeal_32 : decode cX2_hashDeal 32 = .ok (.iload 6, 2) := by decide +kernel
theorem dX2_hashDeal_34 : decode cX2_hashDeal 34 = .ok (.bipush 6, 2) := by decide +kernel
theorem dX2_hashDeal_36 : decode cX2_hashDeal 36 = .ok (.if_icmp .ge 60, 3) := by decide +kernel
theorem dX2_hashDeal_39 : decode cX2_hashDeal 39 = .ok (.ldc2_w 150, 3) := by decide +kernel
theorem dX2_hashDeal_42 : decode cX2_hashDeal 42 = .ok (.lload 4, 2) := by decide +kernel
theorem dX2_hashDeal_44 : decode cX2_hashDeal 44 = .ok (.lmul, 1) := by decide +kernel
theorem dX2_hashDeal_45 : decode cX2_hashDeal 45 = .ok (.aload_n 0, 1) := by decide +kernel
theorem dX2_hashDeal_46 : decode cX2_hashDeal 46 = .ok (.iload_n 3, 1) := by decide +kernel
theorem dX2_hashDeal_47 : decode cX2_hashDeal 47 = .ok (.iload 6, 2) := by decide +kernel
theorem dX2_hashDeal_49 : decode cX2_hashDeal 49 = .ok (.invokevirtual 66, 3) := by decide +kernel
theorem dX2_hashDeal_52 : decode cX2_hashDeal 52 = .ok (.i2l, 1) := by decide +kernel
theorem dX2_hashDeal_53 : decode cX2_hashDeal 53 = .ok (.ladd, 1) := by decide +kernel
theorem dX2_hashDeal_54 : decode cX2_hashDeal 54 = .ok (.lstore 4, 2) := by decide +kernel
theorem dX2_hashDeal_56 : decode cX2_hashDeal 56 = .ok (.ldc2_w 150, 3) := by decide +kernel
theorem dX2_hashDeal_59 : decode cX2_hashDeal 59 = .ok (.lload 4, 2) := by decide +kernel
theorem dX2_hashDeal_61 : decode cX2_hashDeal 61 = .ok (.lmul, 1) := by decide +kernel
theorem dX2_hashDeal_62 : decode cX2_hashDeal 62 = .ok (.aload_n 0, 1) := by decide +kernel
theorem dX2_hashDeal_63 : decode cX2_hashDeal 63 = .ok (.iload_n 3, 1) := by decide +kernel
theorem dX2_hashDeal_64 : decode cX2_hashDeal 64 = .ok (.iload 6, 2) := by decide +kernel
theorem dX2_hashDeal_66 : decode cX2_hashDeal 66 = .ok (.invokevirtual 172, 3) := by decide +kernel
theorem dX2_hashDeal_69 : decode cX2_hashDeal 69 = .ok (.i2l, 1) := by decide +kernel
theorem dX2_hashDeal_70 : decode cX2_hashDeal 70 = .ok (.ladd, 1) := by decide +kernel
theorem dX2_hashDeal_71 : decode cX2_hashDeal 71 = .ok (.lstore 4, 2) := by decide +kernel
theorem dX2_hashDeal_73 : decode cX2_hashDeal 73 = .ok (.ldc2_w 150, 3) := by decide +kernel
theorem dX2_hashDeal_76 : decode cX2_hashDeal 76 = .ok (.lload 4, 2) := by decide +kernel
theorem dX2_hashDeal_78 : decode cX2_hashDeal 78 = .ok (.lmul, 1) := by decide +kernel
theorem dX2_hashDeal_79 : decode cX2_hashDeal 79 = .ok (.aload_n 0, 1) := by decide +kernel
theorem dX2_hashDeal_80 : decode cX2_hashDeal 80 = .ok (.iload_n 3, 1) := by decide +kernel
theorem dX2_hashDeal_81 : decode cX2_hashDeal 81 = .ok (.iload 6, 2) := by decide +kernel
theorem dX2_hashDeal_83 : decode cX2_hashDeal 83 = .ok (.invokevirtual 142, 3) := by decide +kernel
theorem dX2_hashDeal_86 : decode cX2_hashDeal 86 = .ok (.i2l, 1) := by decide +kernel
theorem dX2_hashDeal_87 : decode cX2_hashDeal 87 = .ok (.ladd, 1) := by decide +kernel
theorem dX2_hashDeal_88 : decode cX2_hashDeal 88 = .ok (.lstore 4, 2) := by decide +kernel
theorem dX2_hashDeal_90 : decode cX2_hashDeal 90 = .ok (.iinc 6 1, 3) := by decide +kernel
theorem dX2_hashDeal_93 : decode cX2_hashDeal 93 = .ok (.goto (-61), 3) := by decide +kernel
theorem dX2_hashDeal_96 : decode cX2_hashDeal 96 = .ok (.lload 4, 2) := by decide +kernel
theorem dX2_hashDeal_98 : decode cX2_hashDeal 98 = .ok (.lreturn, 1) := by decide +kernel
end
section
theorem dX4_init_0 : decode cX4_init 0 = .ok (.aload_n 0, 1) := by decide +kernel
theorem dX4_init_1 : decode cX4_init 1 = .ok (.invokespecial 1, 3) := by decide +kernel
theorem dX4_init_4 : decode cX4_init 4 = .ok (.aload_n 0, 1) := by decide +kernel
theorem dX4_init_5 : decode cX4_init 5 = .ok (.sipush 2256, 3) := by decide +kernel
theorem dX4_init_8 : decode cX4_init 8 = .ok (.newarray .int, 2) := by decide +kernel
theorem dX4_init_10 : decode cX4_init 10 = .ok (.putfield 7, 3) := by decide +kernel
theorem dX4_init_13 : decode cX4_init 13 = .ok (.aload_n 0, 1) := by decide +kernel
theorem dX4_init_14 : decode cX4_init 14 = .ok (.bipush 60, 2) := by decide +kernel
theorem dX4_init_16 : decode cX4_init 16 = .ok (.newarray .int, 2) := by decide +kernel
theorem dX4_init_18 : decode cX4_init 18 = .ok (.putfield 13, 3) := by decide +kernel
theorem dX4_init_21 : decode cX4_init 21 = .ok (.aload_n 0, 1) := by decide +kernel
theorem dX4_init_22 : decode cX4_init 22 = .ok (.getfield 7, 3) := by decide +kernel
theorem dX4_init_25 : decode cX4_init 25 = .ok (.iconst 0, 1) := by decide +kernel
theorem dX4_init_26 : decode cX4_init 26 = .ok (.bipush 63, 2) := by decide +kernel
theorem dX4_init_28 : decode cX4_init 28 = .ok (.iastore, 1) := by decide +kernel
theorem dX4_init_29 : decode cX4_init 29 = .ok (.aload_n 0, 1) := by decide +kernel
theorem dX4_init_30 : decode cX4_init 30 = .ok (.getfield 7, 3) := by decide +kernel
theorem dX4_init_33 : decode cX4_init 33 = .ok (.iconst 2, 1) := by decide +kernel
theorem dX4_init_34 : decode cX4_init 34 = .ok (.iconst 3, 1) := by decide +kernel
theorem dX4_init_35 : decode cX4_init 35 = .ok (.iastore, 1) := by decide +kernel
theorem dX4_init_36 : decode cX4_init 36 = .ok (.return_, 1) := by decide +kernel
theorem dX4_thrown_0 : decode cX4_thrown 0 = .ok (.aload_n 0, 1) := by decide +kernel
theorem dX4_thrown_1 : decode cX4_thrown 1 = .ok (.getfield 16, 3) := by decide +kernel
theorem dX4_thrown_4 : decode cX4_thrown 4 = .ok (.ireturn, 1) := by decide +kernel
theorem dX4_in_0 : decode cX4_in 0 = .ok (.iload_n 0, 1) := by decide +kernel
theorem dX4_in_1 : decode cX4_in 1 = .ok (.iload_n 1, 1) := by decide +kernel
theorem dX4_in_2 : decode cX4_in 2 = .ok (.if_icmp .lt 12, 3) := by decide +kernel
theorem dX4_in_5 : decode cX4_in 5 = .ok (.iload_n 0, 1) := by decide +kernel
theorem dX4_in_6 : decode cX4_in 6 = .ok (.iload_n 2, 1) := by decide +kernel
theorem dX4_in_7 : decode cX4_in 7 = .ok (.if_icmp .gt 7, 3) := by decide +kernel
theorem dX4_in_10 : decode cX4_in 10 = .ok (.iconst 1, 1) := by decide +kernel
theorem dX4_in_11 : decode cX4_in 11 = .ok (.goto 4, 3) := by decide +kernel
theorem dX4_in_14 : decode cX4_in 14 = .ok (.iconst 0, 1) := by decide +kernel
theorem dX4_in_15 : decode cX4_in 15 = .ok (.ireturn, 1) := by decide +kernel
theorem dX4_holds_0 : decode cX4_holds 0 = .ok (.aload_n 0, 1) := by decide +kernel
theorem dX4_holds_1 : decode cX4_holds 1 = .ok (.iload_n 1, 1) := by decide +kernel
theorem dX4_holds_2 : decode cX4_holds 2 = .ok (.putfield 16, 3) := by decide +kernel
theorem dX4_holds_5 : decode cX4_holds 5 = .ok (.iload_n 1, 1) := by decide +kernel
theorem dX4_holds_6 : decode cX4_holds 6 = .ok (.ifCond .ne 7, 3) := by decide +kernel
theorem dX4_holds_9 : decode cX4_holds 9 = .ok (.iconst 1, 1) := by decide +kernel
theorem dX4_holds_10 : decode cX4_holds 10 = .ok (.goto 4, 3) := by decide +kernel
theorem dX4_holds_13 : decode cX4_holds 13 = .ok (.iconst 0, 1) := by decide +kernel
theorem dX4_holds_14 : decode cX4_holds 14 = .ok (.ireturn, 1) := by decide +kernel
theorem dX4_isSite_0 : decode cX4_isSite 0 = .ok (.iload_n 0, 1) := by decide +kernel
theorem dX4_isSite_1 : decode cX4_isSite 1 = .ok (.iconst 0, 1) := by decide +kernel
theorem dX4_isSite_2 : decode cX4_isSite 2 = .ok (.iconst 5, 1) := by decide +kernel
theorem dX4_isSite_3 : decode cX4_isSite 3 = .ok (.invokestatic 20, 3) := by decide +kernel
theorem dX4_isSite_6 : decode cX4_isSite 6 = .ok (.ireturn, 1) := by decide +kernel
theorem dX4_isDeal_0 : decode cX4_isDeal 0 = .ok (.iload_n 1, 1) := by decide +kernel
theorem dX4_isDeal_1 : decode cX4_isDeal 1 = .ok (.iconst 0, 1) := by decide +kernel
theorem dX4_isDeal_2 : decode cX4_isDeal 2 = .ok (.aload_n 0, 1) := by decide +kernel
theorem dX4_isDeal_3 : decode cX4_isDeal 3 = .ok (.getfield 7, 3) := by decide +kernel
theorem dX4_isDeal_6 : decode cX4_isDeal 6 = .ok (.iconst 3, 1) := by decide +kernel
theorem dX4_isDeal_7 : decode cX4_isDeal 7 = .ok (.iaload, 1) := by decide +kernel
theorem dX4_isDeal_8 : decode cX4_isDeal 8 = .ok (.iconst 1, 1) := by decide +kernel
theorem dX4_isDeal_9 : decode cX4_isDeal 9 = .ok (.isub, 1) := by decide +kernel
theorem dX4_isDeal_10 : decode cX4_isDeal 10 = .ok (.invokestatic 20, 3) := by decide +kernel
theorem dX4_isDeal_13 : decode cX4_isDeal 13 = .ok (.ireturn, 1) := by decide +kernel
theorem dX4_of_0 : decode cX4_of 0 = .ok (.aload_n 0, 1) := by decide +kernel
theorem dX4_of_1 : decode cX4_of 1 = .ok (.getfield 7, 3) := by decide +kernel
theorem dX4_of_4 : decode cX4_of 4 = .ok (.iload_n 1, 1) := by decide +kernel
theorem dX4_of_5 : decode cX4_of 5 = .ok (.iconst 4, 1) := by decide +kernel
theorem dX4_of_6 : decode cX4_of 6 = .ok (.iadd, 1) := by decide +kernel
theorem dX4_of_7 : decode cX4_of 7 = .ok (.iconst 4, 1) := by decide +kernel
theorem dX4_of_8 : decode cX4_of 8 = .ok (.iload_n 2, 1) := by decide +kernel
theorem dX4_of_9 : decode cX4_of 9 = .ok (.imul, 1) := by decide +kernel
theorem dX4_of_10 : decode cX4_of 10 = .ok (.iadd, 1) := by decide +kernel
theorem dX4_of_11 : decode cX4_of 11 = .ok (.iload_n 3, 1) := by decide +kernel
theorem dX4_of_12 : decode cX4_of 12 = .ok (.iadd, 1) := by decide +kernel
theorem dX4_of_13 : decode cX4_of 13 = .ok (.iaload, 1) := by decide +kernel
theorem dX4_of_14 : decode cX4_of 14 = .ok (.ireturn, 1) := by decide +kernel
theorem dX4_isUpNow_0 : decode cX4_isUpNow 0 = .ok (.aload_n 0, 1) := by decide +kernel
theorem dX4_isUpNow_1 : decode cX4_isUpNow 1 = .ok (.getfield 7, 3) := by decide +kernel
theorem dX4_isUpNow_4 : decode cX4_isUpNow 4 = .ok (.iload_n 1, 1) := by decide +kernel
theorem dX4_isUpNow_5 : decode cX4_isUpNow 5 = .ok (.iconst 0, 1) := by decide +kernel
theorem dX4_isUpNow_6 : decode cX4_isUpNow 6 = .ok (.iadd, 1) := by decide +kernel
theorem dX4_isUpNow_7 : decode cX4_isUpNow 7 = .ok (.iaload, 1) := by decide +kernel
theorem dX4_isUpNow_8 : decode cX4_isUpNow 8 = .ok (.iload_n 2, 1) := by decide +kernel
theorem dX4_isUpNow_9 : decode cX4_isUpNow 9 = .ok (.ishr, 1) := by decide +kernel
theorem dX4_isUpNow_10 : decode cX4_isUpNow 10 = .ok (.iconst 1, 1) := by decide +kernel
theorem dX4_isUpNow_11 : decode cX4_isUpNow 11 = .ok (.iand, 1) := by decide +kernel
theorem dX4_isUpNow_12 : decode cX4_isUpNow 12 = .ok (.iconst 1, 1) := by decide +kernel
theorem dX4_isUpNow_13 : decode cX4_isUpNow 13 = .ok (.if_icmp .ne 7, 3) := by decide +kernel
theorem dX4_isUpNow_16 : decode cX4_isUpNow 16 = .ok (.iconst 1, 1) := by decide +kernel
theorem dX4_isUpNow_17 : decode cX4_isUpNow 17 = .ok (.goto 4, 3) := by decide +kernel
theorem dX4_isUpNow_20 : decode cX4_isUpNow 20 = .ok (.iconst 0, 1) := by decide +kernel
theorem dX4_isUpNow_21 : decode cX4_isUpNow 21 = .ok (.ireturn, 1) := by decide +kernel
theorem dX4_isMember_0 : decode cX4_isMember 0 = .ok (.aload_n 0, 1) := by decide +kernel
theorem dX4_isMember_1 : decode cX4_isMember 1 = .ok (.iload_n 1, 1) := by decide +kernel
theorem dX4_isMember_2 : decode cX4_isMember 2 = .ok (.iload_n 2, 1) := by decide +kernel
theorem dX4_isMember_3 : decode cX4_isMember 3 = .ok (.iconst 1, 1) := by decide +kernel
theorem dX4_isMember_4 : decode cX4_isMember 4 = .ok (.invokevirtual 24, 3) := by decide +kernel
theorem dX4_isMember_7 : decode cX4_isMember 7 = .ok (.iload_n 3, 1) := by decide +kernel
theorem dX4_isMember_8 : decode cX4_isMember 8 = .ok (.ishr, 1) := by decide +kernel
theorem dX4_isMember_9 : decode cX4_isMember 9 = .ok (.iconst 1, 1) := by decide +kernel
theorem dX4_isMember_10 : decode cX4_isMember 10 = .ok (.iand, 1) := by decide +kernel
theorem dX4_isMember_11 : decode cX4_isMember 11 = .ok (.iconst 1, 1) := by decide +kernel
theorem dX4_isMember_12 : decode cX4_isMember 12 = .ok (.if_icmp .ne 7, 3) := by decide +kernel
theorem dX4_isMember_15 : decode cX4_isMember 15 = .ok (.iconst 1, 1) := by decide +kernel
theorem dX4_isMember_16 : decode cX4_isMember 16 = .ok (.goto 4, 3) := by decide +kernel
theorem dX4_isMember_19 : decode cX4_isMember 19 = .ok (.iconst 0, 1) := by decide +kernel
theorem dX4_isMember_20 : decode cX4_isMember 20 = .ok (.ireturn, 1) := by decide +kernel
theorem dX4_stateOf_0 : decode cX4_stateOf 0 = .ok (.aload_n 0, 1) := by decide +kernel
theorem dX4_stateOf_1 : decode cX4_stateOf 1 = .ok (.iload_n 1, 1) := by decide +kernel
theorem dX4_stateOf_2 : decode cX4_stateOf 2 = .ok (.iload_n 2, 1) := by decide +kernel
theorem dX4_stateOf_3 : decode cX4_stateOf 3 = .ok (.iload_n 3, 1) := by decide +kernel
theorem dX4_stateOf_4 : decode cX4_stateOf 4 = .ok (.invokevirtual 28, 3) := by decide +kernel
theorem dX4_stateOf_7 : decode cX4_stateOf 7 = .ok (.ifCond .eq 22, 3) := by decide +kernel
theorem dX4_stateOf_10 : decode cX4_stateOf 10 = .ok (.aload_n 0, 1) := by decide +kernel
theorem dX4_stateOf_11 : decode cX4_stateOf 11 = .ok (.getfield 7, 3) := by decide +kernel
theorem dX4_stateOf_14 : decode cX4_stateOf 14 = .ok (.iload_n 1, 1) := by decide +kernel
theorem dX4_stateOf_15 : decode cX4_stateOf 15 = .ok (.bipush 36, 2) := by decide +kernel
theorem dX4_stateOf_17 : decode cX4_stateOf 17 = .ok (.iadd, 1) := by decide +kernel
theorem dX4_stateOf_18 : decode cX4_stateOf 18 = .ok (.bipush 6, 2) := by decide +kernel
theorem dX4_stateOf_20 : decode cX4_stateOf 20 = .ok (.iload_n 2, 1) := by decide +kernel
theorem dX4_stateOf_21 : decode cX4_stateOf 21 = .ok (.imul, 1) := by decide +kernel
theorem dX4_stateOf_22 : decode cX4_stateOf 22 = .ok (.iadd, 1) := by decide +kernel
theorem dX4_stateOf_23 : decode cX4_stateOf 23 = .ok (.iload_n 3, 1) := by decide +kernel
theorem dX4_stateOf_24 : decode cX4_stateOf 24 = .ok (.iadd, 1) := by decide +kernel
theorem dX4_stateOf_25 : decode cX4_stateOf 25 = .ok (.iaload, 1) := by decide +kernel
theorem dX4_stateOf_26 : decode cX4_stateOf 26 = .ok (.goto 4, 3) := by decide +kernel
theorem dX4_stateOf_29 : decode cX4_stateOf 29 = .ok (.iconst (-1), 1) := by decide +kernel
theorem dX4_stateOf_30 : decode cX4_stateOf 30 = .ok (.ireturn, 1) := by decide +kernel
theorem dX4_logs_0 : decode cX4_logs 0 = .ok (.iload_n 1, 1) := by decide +kernel
theorem dX4_logs_1 : decode cX4_logs 1 = .ok (.sipush 132, 3) := by decide +kernel
theorem dX4_logs_4 : decode cX4_logs 4 = .ok (.iadd, 1) := by decide +kernel
theorem dX4_logs_5 : decode cX4_logs 5 = .ok (.bipush 25, 2) := by decide +kernel
theorem dX4_logs_7 : decode cX4_logs 7 = .ok (.iload_n 2, 1) := by decide +kernel
theorem dX4_logs_8 : decode cX4_logs 8 = .ok (.imul, 1) := by decide +kernel
theorem dX4_logs_9 : decode cX4_logs 9 = .ok (.iadd, 1) := by decide +kernel
theorem dX4_logs_10 : decode cX4_logs 10 = .ok (.istore 4, 2) := by decide +kernel
theorem dX4_logs_12 : decode cX4_logs 12 = .ok (.aload_n 0, 1) := by decide +kernel
theorem dX4_logs_13 : decode cX4_logs 13 = .ok (.getfield 7, 3) := by decide +kernel
theorem dX4_logs_16 : decode cX4_logs 16 = .ok (.iload 4, 2) := by decide +kernel
theorem dX4_logs_18 : decode cX4_logs 18 = .ok (.dup2, 1) := by decide +kernel
theorem dX4_logs_19 : decode cX4_logs 19 = .ok (.iaload, 1) := by decide +kernel
theorem dX4_logs_20 : decode cX4_logs 20 = .ok (.iconst 1, 1) := by decide +kernel
theorem dX4_logs_21 : decode cX4_logs 21 = .ok (.iadd, 1) := by decide +kernel
theorem dX4_logs_22 : decode cX4_logs 22 = .ok (.iastore, 1) := by decide +kernel
theorem dX4_logs_23 : decode cX4_logs 23 = .ok (.aload_n 0, 1) := by decide +kernel
theorem dX4_logs_24 : decode cX4_logs 24 = .ok (.getfield 7, 3) := by decide +kernel
theorem dX4_logs_27 : decode cX4_logs 27 = .ok (.iload 4, 2) := by decide +kernel
theorem dX4_logs_29 : decode cX4_logs 29 = .ok (.aload_n 0, 1) := by decide +kernel
theorem dX4_logs_30 : decode cX4_logs 30 = .ok (.getfield 7, 3) := by decide +kernel
theorem dX4_logs_33 : decode cX4_logs 33 = .ok (.iload 4, 2) := by decide +kernel
theorem dX4_logs_35 : decode cX4_logs 35 = .ok (.iaload, 1) := by decide +kernel
theorem dX4_logs_36 : decode cX4_logs 36 = .ok (.iadd, 1) := by decide +kernel
theorem dX4_logs_37 : decode cX4_logs 37 = .ok (.iload_n 3, 1) := by decide +kernel
theorem dX4_logs_38 : decode cX4_logs 38 = .ok (.iastore, 1) := by decide +kernel
theorem dX4_logs_39 : decode cX4_logs 39 = .ok (.return_, 1) := by decide +kernel
theorem dX4_gets_0 : decode cX4_gets 0 = .ok (.aload_n 0, 1) := by decide +kernel
theorem dX4_gets_1 : decode cX4_gets 1 = .ok (.getfield 7, 3) := by decide +kernel
theorem dX4_gets_4 : decode cX4_gets 4 = .ok (.iload_n 1, 1) := by decide +kernel
theorem dX4_gets_5 : decode cX4_gets 5 = .ok (.bipush 36, 2) := by decide +kernel
theorem dX4_gets_7 : decode cX4_gets 7 = .ok (.iadd, 1) := by decide +kernel
theorem dX4_gets_8 : decode cX4_gets 8 = .ok (.bipush 6, 2) := by decide +kernel
theorem dX4_gets_10 : decode cX4_gets 10 = .ok (.iload_n 2, 1) := by decide +kernel
theorem dX4_gets_11 : decode cX4_gets 11 = .ok (.imul, 1) := by decide +kernel
theorem dX4_gets_12 : decode cX4_gets 12 = .ok (.iadd, 1) := by decide +kernel
theorem dX4_gets_13 : decode cX4_gets 13 = .ok (.iload_n 3, 1) := by decide +kernel
theorem dX4_gets_14 : decode cX4_gets 14 = .ok (.iadd, 1) := by decide +kernel
theorem dX4_gets_15 : decode cX4_gets 15 = .ok (.iload 4, 2) := by decide +kernel
theorem dX4_gets_17 : decode cX4_gets 17 = .ok (.iastore, 1) := by decide +kernel
theorem dX4_gets_18 : decode cX4_gets 18 = .ok (.aload_n 0, 1) := by decide +kernel
theorem dX4_gets_19 : decode cX4_gets 19 = .ok (.getfield 7, 3) := by decide +kernel
theorem dX4_gets_22 : decode cX4_gets 22 = .ok (.iload_n 1, 1) := by decide +kernel
theorem dX4_gets_23 : decode cX4_gets 23 = .ok (.bipush 84, 2) := by decide +kernel
theorem dX4_gets_25 : decode cX4_gets 25 = .ok (.iadd, 1) := by decide +kernel
theorem dX4_gets_26 : decode cX4_gets 26 = .ok (.bipush 6, 2) := by decide +kernel
theorem dX4_gets_28 : decode cX4_gets 28 = .ok (.iload_n 2, 1) := by decide +kernel
theorem dX4_gets_29 : decode cX4_gets 29 = .ok (.imul, 1) := by decide +kernel
theorem dX4_gets_30 : decode cX4_gets 30 = .ok (.iadd, 1) := by decide +kernel
theorem dX4_gets_31 : decode cX4_gets 31 = .ok (.iload_n 3, 1) := by decide +kernel
theorem dX4_gets_32 : decode cX4_gets 32 = .ok (.iadd, 1) := by decide +kernel
theorem dX4_gets_33 : decode cX4_gets 33 = .ok (.iload 4, 2) := by decide +kernel
theorem dX4_gets_35 : decode cX4_gets 35 = .ok (.iconst 1, 1) := by decide +kernel
theorem dX4_gets_36 : decode cX4_gets 36 = .ok (.if_icmp .ne 14, 3) := by decide +kernel
theorem dX4_gets_39 : decode cX4_gets 39 = .ok (.aload_n 0, 1) := by decide +kernel
theorem dX4_gets_40 : decode cX4_gets 40 = .ok (.getfield 7, 3) := by decide +kernel
theorem dX4_gets_43 : decode cX4_gets 43 = .ok (.iload_n 1, 1) := by decide +kernel
theorem dX4_gets_44 : decode cX4_gets 44 = .ok (.iconst 2, 1) := by decide +kernel
theorem dX4_gets_45 : decode cX4_gets 45 = .ok (.iadd, 1) := by decide +kernel
theorem dX4_gets_46 : decode cX4_gets 46 = .ok (.iaload, 1) := by decide +kernel
theorem dX4_gets_47 : decode cX4_gets 47 = .ok (.goto 4, 3) := by decide +kernel
theorem dX4_gets_50 : decode cX4_gets 50 = .ok (.iconst 0, 1) := by decide +kernel
theorem dX4_gets_51 : decode cX4_gets 51 = .ok (.iastore, 1) := by decide +kernel
theorem dX4_gets_52 : decode cX4_gets 52 = .ok (.aload_n 0, 1) := by decide +kernel
theorem dX4_gets_53 : decode cX4_gets 53 = .ok (.iload_n 1, 1) := by decide +kernel
theorem dX4_gets_54 : decode cX4_gets 54 = .ok (.iload_n 3, 1) := by decide +kernel
theorem dX4_gets_55 : decode cX4_gets 55 = .ok (.bipush 10, 2) := by decide +kernel
theorem dX4_gets_57 : decode cX4_gets 57 = .ok (.iload_n 2, 1) := by decide +kernel
theorem dX4_gets_58 : decode cX4_gets 58 = .ok (.imul, 1) := by decide +kernel
theorem dX4_gets_59 : decode cX4_gets 59 = .ok (.iload 4, 2) := by decide +kernel
theorem dX4_gets_61 : decode cX4_gets 61 = .ok (.iadd, 1) := by decide +kernel
theorem dX4_gets_62 : decode cX4_gets 62 = .ok (.invokevirtual 31, 3) := by decide +kernel
theorem dX4_gets_65 : decode cX4_gets 65 = .ok (.return_, 1) := by decide +kernel
theorem dX4_decides_0 : decode cX4_decides 0 = .ok (.aload_n 0, 1) := by decide +kernel
theorem dX4_decides_1 : decode cX4_decides 1 = .ok (.getfield 7, 3) := by decide +kernel
theorem dX4_decides_4 : decode cX4_decides 4 = .ok (.iload_n 1, 1) := by decide +kernel
theorem dX4_decides_5 : decode cX4_decides 5 = .ok (.iconst 4, 1) := by decide +kernel
theorem dX4_decides_6 : decode cX4_decides 6 = .ok (.iadd, 1) := by decide +kernel
theorem dX4_decides_7 : decode cX4_decides 7 = .ok (.iconst 4, 1) := by decide +kernel
theorem dX4_decides_8 : decode cX4_decides 8 = .ok (.iload_n 2, 1) := by decide +kernel
theorem dX4_decides_9 : decode cX4_decides 9 = .ok (.imul, 1) := by decide +kernel
theorem dX4_decides_10 : decode cX4_decides 10 = .ok (.iadd, 1) := by decide +kernel
theorem dX4_decides_11 : decode cX4_decides 11 = .ok (.iconst 3, 1) := by decide +kernel
theorem dX4_decides_12 : decode cX4_decides 12 = .ok (.iadd, 1) := by decide +kernel
theorem dX4_decides_13 : decode cX4_decides 13 = .ok (.iload_n 3, 1) := by decide +kernel
theorem dX4_decides_14 : decode cX4_decides 14 = .ok (.iastore, 1) := by decide +kernel
theorem dX4_decides_15 : decode cX4_decides 15 = .ok (.aload_n 0, 1) := by decide +kernel
theorem dX4_decides_16 : decode cX4_decides 16 = .ok (.iload_n 1, 1) := by decide +kernel
theorem dX4_decides_17 : decode cX4_decides 17 = .ok (.aload_n 0, 1) := by decide +kernel
theorem dX4_decides_18 : decode cX4_decides 18 = .ok (.iload_n 1, 1) := by decide +kernel
theorem dX4_decides_19 : decode cX4_decides 19 = .ok (.iload_n 2, 1) := by decide +kernel
theorem dX4_decides_20 : decode cX4_decides 20 = .ok (.iconst 0, 1) := by decide +kernel
theorem dX4_decides_21 : decode cX4_decides 21 = .ok (.invokevirtual 24, 3) := by decide +kernel
theorem dX4_decides_24 : decode cX4_decides 24 = .ok (.bipush 10, 2) := by decide +kernel
theorem dX4_decides_26 : decode cX4_decides 26 = .ok (.iload_n 2, 1) := by decide +kernel
theorem dX4_decides_27 : decode cX4_decides 27 = .ok (.imul, 1) := by decide +kernel
theorem dX4_decides_28 : decode cX4_decides 28 = .ok (.iload_n 3, 1) := by decide +kernel
theorem dX4_decides_29 : decode cX4_decides 29 = .ok (.iadd, 1) := by decide +kernel
theorem dX4_decides_30 : decode cX4_decides 30 = .ok (.iconst 3, 1) := by decide +kernel
theorem dX4_decides_31 : decode cX4_decides 31 = .ok (.iadd, 1) := by decide +kernel
theorem dX4_decides_32 : decode cX4_decides 32 = .ok (.invokevirtual 31, 3) := by decide +kernel
theorem dX4_decides_35 : decode cX4_decides 35 = .ok (.return_, 1) := by decide +kernel
theorem dX4_heldBy_0 : decode cX4_heldBy 0 = .ok (.iconst 0, 1) := by decide +kernel
theorem dX4_heldBy_1 : decode cX4_heldBy 1 = .ok (.istore_n 3, 1) := by decide +kernel
theorem dX4_heldBy_2 : decode cX4_heldBy 2 = .ok (.iconst 0, 1) := by decide +kernel
theorem dX4_heldBy_3 : decode cX4_heldBy 3 = .ok (.istore 4, 2) := by decide +kernel
theorem dX4_heldBy_5 : decode cX4_heldBy 5 = .ok (.iload 4, 2) := by decide +kernel
theorem dX4_heldBy_7 : decode cX4_heldBy 7 = .ok (.aload_n 0, 1) := by decide +kernel
theorem dX4_heldBy_8 : decode cX4_heldBy 8 = .ok (.getfield 7, 3) := by decide +kernel
theorem dX4_heldBy_11 : decode cX4_heldBy 11 = .ok (.iload_n 1, 1) := by decide +kernel
theorem dX4_heldBy_12 : decode cX4_heldBy 12 = .ok (.iconst 3, 1) := by decide +kernel
theorem dX4_heldBy_13 : decode cX4_heldBy 13 = .ok (.iadd, 1) := by decide +kernel
theorem dX4_heldBy_14 : decode cX4_heldBy 14 = .ok (.iaload, 1) := by decide +kernel
theorem dX4_heldBy_15 : decode cX4_heldBy 15 = .ok (.if_icmp .ge 38, 3) := by decide +kernel
theorem dX4_heldBy_18 : decode cX4_heldBy 18 = .ok (.iload_n 3, 1) := by decide +kernel
theorem dX4_heldBy_19 : decode cX4_heldBy 19 = .ok (.aload_n 0, 1) := by decide +kernel
theorem dX4_heldBy_20 : decode cX4_heldBy 20 = .ok (.iload_n 1, 1) := by decide +kernel
theorem dX4_heldBy_21 : decode cX4_heldBy 21 = .ok (.iload 4, 2) := by decide +kernel
theorem dX4_heldBy_23 : decode cX4_heldBy 23 = .ok (.iload_n 2, 1) := by decide +kernel
theorem dX4_heldBy_24 : decode cX4_heldBy 24 = .ok (.invokevirtual 35, 3) := by decide +kernel
theorem dX4_heldBy_27 : decode cX4_heldBy 27 = .ok (.iconst 1, 1) := by decide +kernel
theorem dX4_heldBy_28 : decode cX4_heldBy 28 = .ok (.if_icmp .ne 16, 3) := by decide +kernel
theorem dX4_heldBy_31 : decode cX4_heldBy 31 = .ok (.iconst 1, 1) := by decide +kernel
theorem dX4_heldBy_32 : decode cX4_heldBy 32 = .ok (.aload_n 0, 1) := by decide +kernel
theorem dX4_heldBy_33 : decode cX4_heldBy 33 = .ok (.iload_n 1, 1) := by decide +kernel
theorem dX4_heldBy_34 : decode cX4_heldBy 34 = .ok (.iload 4, 2) := by decide +kernel
theorem dX4_heldBy_36 : decode cX4_heldBy 36 = .ok (.iconst 2, 1) := by decide +kernel
theorem dX4_heldBy_37 : decode cX4_heldBy 37 = .ok (.invokevirtual 24, 3) := by decide +kernel
theorem dX4_heldBy_40 : decode cX4_heldBy 40 = .ok (.ishl, 1) := by decide +kernel
theorem dX4_heldBy_41 : decode cX4_heldBy 41 = .ok (.goto 4, 3) := by decide +kernel
theorem dX4_heldBy_44 : decode cX4_heldBy 44 = .ok (.iconst 0, 1) := by decide +kernel
theorem dX4_heldBy_45 : decode cX4_heldBy 45 = .ok (.ior, 1) := by decide +kernel
theorem dX4_heldBy_46 : decode cX4_heldBy 46 = .ok (.istore_n 3, 1) := by decide +kernel
theorem dX4_heldBy_47 : decode cX4_heldBy 47 = .ok (.iinc 4 1, 3) := by decide +kernel
theorem dX4_heldBy_50 : decode cX4_heldBy 50 = .ok (.goto (-45), 3) := by decide +kernel
theorem dX4_heldBy_53 : decode cX4_heldBy 53 = .ok (.iload_n 3, 1) := by decide +kernel
theorem dX4_heldBy_54 : decode cX4_heldBy 54 = .ok (.ireturn, 1) := by decide +kernel
theorem dX4_isHeld_0 : decode cX4_isHeld 0 = .ok (.aload_n 0, 1) := by decide +kernel
theorem dX4_isHeld_1 : decode cX4_isHeld 1 = .ok (.iload_n 1, 1) := by decide +kernel
theorem dX4_isHeld_2 : decode cX4_isHeld 2 = .ok (.iload_n 3, 1) := by decide +kernel
theorem dX4_isHeld_3 : decode cX4_isHeld 3 = .ok (.invokevirtual 38, 3) := by decide +kernel
theorem dX4_isHeld_6 : decode cX4_isHeld 6 = .ok (.aload_n 0, 1) := by decide +kernel
theorem dX4_isHeld_7 : decode cX4_isHeld 7 = .ok (.iload_n 1, 1) := by decide +kernel
theorem dX4_isHeld_8 : decode cX4_isHeld 8 = .ok (.iload_n 2, 1) := by decide +kernel
theorem dX4_isHeld_9 : decode cX4_isHeld 9 = .ok (.iconst 2, 1) := by decide +kernel
theorem dX4_isHeld_10 : decode cX4_isHeld 10 = .ok (.invokevirtual 24, 3) := by decide +kernel
theorem dX4_isHeld_13 : decode cX4_isHeld 13 = .ok (.ishr, 1) := by decide +kernel
theorem dX4_isHeld_14 : decode cX4_isHeld 14 = .ok (.iconst 1, 1) := by decide +kernel
theorem dX4_isHeld_15 : decode cX4_isHeld 15 = .ok (.iand, 1) := by decide +kernel
theorem dX4_isHeld_16 : decode cX4_isHeld 16 = .ok (.iconst 1, 1) := by decide +kernel
theorem dX4_isHeld_17 : decode cX4_isHeld 17 = .ok (.if_icmp .ne 7, 3) := by decide +kernel
theorem dX4_isHeld_20 : decode cX4_isHeld 20 = .ok (.iconst 1, 1) := by decide +kernel
theorem dX4_isHeld_21 : decode cX4_isHeld 21 = .ok (.goto 4, 3) := by decide +kernel
theorem dX4_isHeld_24 : decode cX4_isHeld 24 = .ok (.iconst 0, 1) := by decide +kernel
theorem dX4_isHeld_25 : decode cX4_isHeld 25 = .ok (.ireturn, 1) := by decide +kernel
theorem dX4_votes_0 : decode cX4_votes 0 = .ok (.aload_n 0, 1) := by decide +kernel
theorem dX4_votes_1 : decode cX4_votes 1 = .ok (.iconst 0, 1) := by decide +kernel
theorem dX4_votes_2 : decode cX4_votes 2 = .ok (.iload_n 1, 1) := by decide +kernel
theorem dX4_votes_3 : decode cX4_votes 3 = .ok (.iload_n 2, 1) := by decide +kernel
theorem dX4_votes_4 : decode cX4_votes 4 = .ok (.iload_n 3, 1) := by decide +kernel
theorem dX4_votes_5 : decode cX4_votes 5 = .ok (.ifCond .eq 17, 3) := by decide +kernel
theorem dX4_votes_8 : decode cX4_votes 8 = .ok (.aload_n 0, 1) := by decide +kernel
theorem dX4_votes_9 : decode cX4_votes 9 = .ok (.iconst 0, 1) := by decide +kernel
theorem dX4_votes_10 : decode cX4_votes 10 = .ok (.iload_n 1, 1) := by decide +kernel
theorem dX4_votes_11 : decode cX4_votes 11 = .ok (.iload_n 2, 1) := by decide +kernel
theorem dX4_votes_12 : decode cX4_votes 12 = .ok (.invokevirtual 42, 3) := by decide +kernel
theorem dX4_votes_15 : decode cX4_votes 15 = .ok (.ifCond .ne 7, 3) := by decide +kernel
theorem dX4_votes_18 : decode cX4_votes 18 = .ok (.iconst 1, 1) := by decide +kernel
theorem dX4_votes_19 : decode cX4_votes 19 = .ok (.goto 4, 3) := by decide +kernel
theorem dX4_votes_22 : decode cX4_votes 22 = .ok (.iconst 3, 1) := by decide +kernel
theorem dX4_votes_23 : decode cX4_votes 23 = .ok (.invokevirtual 45, 3) := by decide +kernel
theorem dX4_votes_26 : decode cX4_votes 26 = .ok (.return_, 1) := by decide +kernel
theorem dX4_verdict_0 : decode cX4_verdict 0 = .ok (.iconst 1, 1) := by decide +kernel
theorem dX4_verdict_1 : decode cX4_verdict 1 = .ok (.istore_n 2, 1) := by decide +kernel
theorem dX4_verdict_2 : decode cX4_verdict 2 = .ok (.iconst 0, 1) := by decide +kernel
theorem dX4_verdict_3 : decode cX4_verdict 3 = .ok (.istore_n 3, 1) := by decide +kernel
theorem dX4_verdict_4 : decode cX4_verdict 4 = .ok (.iload_n 3, 1) := by decide +kernel
theorem dX4_verdict_5 : decode cX4_verdict 5 = .ok (.bipush 6, 2) := by decide +kernel
theorem dX4_verdict_7 : decode cX4_verdict 7 = .ok (.if_icmp .ge 40, 3) := by decide +kernel
theorem dX4_verdict_10 : decode cX4_verdict 10 = .ok (.iload_n 2, 1) := by decide +kernel
theorem dX4_verdict_11 : decode cX4_verdict 11 = .ok (.ifCond .eq 28, 3) := by decide +kernel
theorem dX4_verdict_14 : decode cX4_verdict 14 = .ok (.aload_n 0, 1) := by decide +kernel
theorem dX4_verdict_15 : decode cX4_verdict 15 = .ok (.iconst 0, 1) := by decide +kernel
theorem dX4_verdict_16 : decode cX4_verdict 16 = .ok (.iload_n 1, 1) := by decide +kernel
theorem dX4_verdict_17 : decode cX4_verdict 17 = .ok (.iload_n 3, 1) := by decide +kernel
theorem dX4_verdict_18 : decode cX4_verdict 18 = .ok (.invokevirtual 28, 3) := by decide +kernel
theorem dX4_verdict_21 : decode cX4_verdict 21 = .ok (.ifCond .eq 14, 3) := by decide +kernel
theorem dX4_verdict_24 : decode cX4_verdict 24 = .ok (.aload_n 0, 1) := by decide +kernel
theorem dX4_verdict_25 : decode cX4_verdict 25 = .ok (.iconst 0, 1) := by decide +kernel
theorem dX4_verdict_26 : decode cX4_verdict 26 = .ok (.iload_n 1, 1) := by decide +kernel
theorem dX4_verdict_27 : decode cX4_verdict 27 = .ok (.iload_n 3, 1) := by decide +kernel
theorem dX4_verdict_28 : decode cX4_verdict 28 = .ok (.invokevirtual 35, 3) := by decide +kernel
theorem dX4_verdict_31 : decode cX4_verdict 31 = .ok (.iconst 1, 1) := by decide +kernel
theorem dX4_verdict_32 : decode cX4_verdict 32 = .ok (.if_icmp .ne 7, 3) := by decide +kernel
theorem dX4_verdict_35 : decode cX4_verdict 35 = .ok (.iconst 1, 1) := by decide +kernel
theorem dX4_verdict_36 : decode cX4_verdict 36 = .ok (.goto 4, 3) := by decide +kernel
theorem dX4_verdict_39 : decode cX4_verdict 39 = .ok (.iconst 0, 1) := by decide +kernel
theorem dX4_verdict_40 : decode cX4_verdict 40 = .ok (.istore_n 2, 1) := by decide +kernel
theorem dX4_verdict_41 : decode cX4_verdict 41 = .ok (.iinc 3 1, 3) := by decide +kernel
theorem dX4_verdict_44 : decode cX4_verdict 44 = .ok (.goto (-40), 3) := by decide +kernel
theorem dX4_verdict_47 : decode cX4_verdict 47 = .ok (.iload_n 2, 1) := by decide +kernel
theorem dX4_verdict_48 : decode cX4_verdict 48 = .ok (.ifCond .eq 7, 3) := by decide +kernel
theorem dX4_verdict_51 : decode cX4_verdict 51 = .ok (.iconst 2, 1) := by decide +kernel
theorem dX4_verdict_52 : decode cX4_verdict 52 = .ok (.goto 4, 3) := by decide +kernel
theorem dX4_verdict_55 : decode cX4_verdict 55 = .ok (.iconst 3, 1) := by decide +kernel
theorem dX4_verdict_56 : decode cX4_verdict 56 = .ok (.ireturn, 1) := by decide +kernel
theorem dX4_tells_0 : decode cX4_tells 0 = .ok (.aload_n 0, 1) := by decide +kernel
theorem dX4_tells_1 : decode cX4_tells 1 = .ok (.iload_n 1, 1) := by decide +kernel
theorem dX4_tells_2 : decode cX4_tells 2 = .ok (.iload_n 2, 1) := by decide +kernel
theorem dX4_tells_3 : decode cX4_tells 3 = .ok (.iload_n 3, 1) := by decide +kernel
theorem dX4_tells_4 : decode cX4_tells 4 = .ok (.invokevirtual 35, 3) := by decide +kernel
theorem dX4_tells_7 : decode cX4_tells 7 = .ok (.istore 4, 2) := by decide +kernel
theorem dX4_tells_9 : decode cX4_tells 9 = .ok (.aload_n 0, 1) := by decide +kernel
theorem dX4_tells_10 : decode cX4_tells 10 = .ok (.iload_n 1, 1) := by decide +kernel
theorem dX4_tells_11 : decode cX4_tells 11 = .ok (.iload_n 2, 1) := by decide +kernel
theorem dX4_tells_12 : decode cX4_tells 12 = .ok (.iconst 3, 1) := by decide +kernel
theorem dX4_tells_13 : decode cX4_tells 13 = .ok (.invokevirtual 24, 3) := by decide +kernel
theorem dX4_tells_16 : decode cX4_tells 16 = .ok (.istore 5, 2) := by decide +kernel
theorem dX4_tells_18 : decode cX4_tells 18 = .ok (.iload 4, 2) := by decide +kernel
theorem dX4_tells_20 : decode cX4_tells 20 = .ok (.iconst 1, 1) := by decide +kernel
theorem dX4_tells_21 : decode cX4_tells 21 = .ok (.if_icmp .eq 14, 3) := by decide +kernel
theorem dX4_tells_24 : decode cX4_tells 24 = .ok (.iload 4, 2) := by decide +kernel
theorem dX4_tells_26 : decode cX4_tells 26 = .ok (.ifCond .ne 18, 3) := by decide +kernel
theorem dX4_tells_29 : decode cX4_tells 29 = .ok (.iload 5, 2) := by decide +kernel
theorem dX4_tells_31 : decode cX4_tells 31 = .ok (.iconst 3, 1) := by decide +kernel
theorem dX4_tells_32 : decode cX4_tells 32 = .ok (.if_icmp .ne 12, 3) := by decide +kernel
theorem dX4_tells_35 : decode cX4_tells 35 = .ok (.aload_n 0, 1) := by decide +kernel
theorem dX4_tells_36 : decode cX4_tells 36 = .ok (.iload_n 1, 1) := by decide +kernel
theorem dX4_tells_37 : decode cX4_tells 37 = .ok (.iload_n 2, 1) := by decide +kernel
theorem dX4_tells_38 : decode cX4_tells 38 = .ok (.iload_n 3, 1) := by decide +kernel
theorem dX4_tells_39 : decode cX4_tells 39 = .ok (.iload 5, 2) := by decide +kernel
theorem dX4_tells_41 : decode cX4_tells 41 = .ok (.invokevirtual 45, 3) := by decide +kernel
theorem dX4_tells_44 : decode cX4_tells 44 = .ok (.return_, 1) := by decide +kernel
theorem dX4_helps_0 : decode cX4_helps 0 = .ok (.aload_n 0, 1) := by decide +kernel
theorem dX4_helps_1 : decode cX4_helps 1 = .ok (.iload_n 1, 1) := by decide +kernel
theorem dX4_helps_2 : decode cX4_helps 2 = .ok (.iload_n 2, 1) := by decide +kernel
theorem dX4_helps_3 : decode cX4_helps 3 = .ok (.iconst 0, 1) := by decide +kernel
theorem dX4_helps_4 : decode cX4_helps 4 = .ok (.invokevirtual 24, 3) := by decide +kernel
theorem dX4_helps_7 : decode cX4_helps 7 = .ok (.iload_n 3, 1) := by decide +kernel
theorem dX4_helps_8 : decode cX4_helps 8 = .ok (.if_icmp .eq 24, 3) := by decide +kernel
theorem dX4_helps_11 : decode cX4_helps 11 = .ok (.aload_n 0, 1) := by decide +kernel
theorem dX4_helps_12 : decode cX4_helps 12 = .ok (.iload_n 1, 1) := by decide +kernel
theorem dX4_helps_13 : decode cX4_helps 13 = .ok (.iload_n 2, 1) := by decide +kernel
theorem dX4_helps_14 : decode cX4_helps 14 = .ok (.iload_n 3, 1) := by decide +kernel
theorem dX4_helps_15 : decode cX4_helps 15 = .ok (.invokevirtual 28, 3) := by decide +kernel
theorem dX4_helps_18 : decode cX4_helps 18 = .ok (.ifCond .eq 18, 3) := by decide +kernel
theorem dX4_helps_21 : decode cX4_helps 21 = .ok (.aload_n 0, 1) := by decide +kernel
theorem dX4_helps_22 : decode cX4_helps 22 = .ok (.iload_n 1, 1) := by decide +kernel
theorem dX4_helps_23 : decode cX4_helps 23 = .ok (.iload_n 2, 1) := by decide +kernel
theorem dX4_helps_24 : decode cX4_helps 24 = .ok (.iload_n 3, 1) := by decide +kernel
theorem dX4_helps_25 : decode cX4_helps 25 = .ok (.invokevirtual 35, 3) := by decide +kernel
theorem dX4_helps_28 : decode cX4_helps 28 = .ok (.iconst 1, 1) := by decide +kernel
theorem dX4_helps_29 : decode cX4_helps 29 = .ok (.if_icmp .eq 7, 3) := by decide +kernel
theorem dX4_helps_32 : decode cX4_helps 32 = .ok (.iconst 1, 1) := by decide +kernel
theorem dX4_helps_33 : decode cX4_helps 33 = .ok (.goto 4, 3) := by decide +kernel
theorem dX4_helps_36 : decode cX4_helps 36 = .ok (.iconst 0, 1) := by decide +kernel
theorem dX4_helps_37 : decode cX4_helps 37 = .ok (.ireturn, 1) := by decide +kernel
theorem dX4_asks_0 : decode cX4_asks 0 = .ok (.aload_n 0, 1) := by decide +kernel
theorem dX4_asks_1 : decode cX4_asks 1 = .ok (.getfield 7, 3) := by decide +kernel
theorem dX4_asks_4 : decode cX4_asks 4 = .ok (.iload_n 1, 1) := by decide +kernel
theorem dX4_asks_5 : decode cX4_asks 5 = .ok (.iconst 1, 1) := by decide +kernel
theorem dX4_asks_6 : decode cX4_asks 6 = .ok (.iadd, 1) := by decide +kernel
theorem dX4_asks_7 : decode cX4_asks 7 = .ok (.dup2, 1) := by decide +kernel
theorem dX4_asks_8 : decode cX4_asks 8 = .ok (.iaload, 1) := by decide +kernel
theorem dX4_asks_9 : decode cX4_asks 9 = .ok (.iconst 1, 1) := by decide +kernel
theorem dX4_asks_10 : decode cX4_asks 10 = .ok (.iadd, 1) := by decide +kernel
theorem dX4_asks_11 : decode cX4_asks 11 = .ok (.iastore, 1) := by decide +kernel
theorem dX4_asks_12 : decode cX4_asks 12 = .ok (.aload_n 0, 1) := by decide +kernel
theorem dX4_asks_13 : decode cX4_asks 13 = .ok (.iload_n 1, 1) := by decide +kernel
theorem dX4_asks_14 : decode cX4_asks 14 = .ok (.iload_n 2, 1) := by decide +kernel
theorem dX4_asks_15 : decode cX4_asks 15 = .ok (.iconst 0, 1) := by decide +kernel
theorem dX4_asks_16 : decode cX4_asks 16 = .ok (.invokevirtual 24, 3) := by decide +kernel
theorem dX4_asks_19 : decode cX4_asks 19 = .ok (.iload 4, 2) := by decide +kernel
theorem dX4_asks_21 : decode cX4_asks 21 = .ok (.if_icmp .ne 30, 3) := by decide +kernel
theorem dX4_asks_24 : decode cX4_asks 24 = .ok (.aload_n 0, 1) := by decide +kernel
theorem dX4_asks_25 : decode cX4_asks 25 = .ok (.iload_n 1, 1) := by decide +kernel
theorem dX4_asks_26 : decode cX4_asks 26 = .ok (.iload_n 2, 1) := by decide +kernel
theorem dX4_asks_27 : decode cX4_asks 27 = .ok (.iconst 3, 1) := by decide +kernel
theorem dX4_asks_28 : decode cX4_asks 28 = .ok (.invokevirtual 24, 3) := by decide +kernel
theorem dX4_asks_31 : decode cX4_asks 31 = .ok (.ifCond .ne 10, 3) := by decide +kernel
theorem dX4_asks_34 : decode cX4_asks 34 = .ok (.aload_n 0, 1) := by decide +kernel
theorem dX4_asks_35 : decode cX4_asks 35 = .ok (.iload_n 1, 1) := by decide +kernel
theorem dX4_asks_36 : decode cX4_asks 36 = .ok (.iload_n 2, 1) := by decide +kernel
theorem dX4_asks_37 : decode cX4_asks 37 = .ok (.iconst 3, 1) := by decide +kernel
theorem dX4_asks_38 : decode cX4_asks 38 = .ok (.invokevirtual 49, 3) := by decide +kernel
theorem dX4_asks_41 : decode cX4_asks 41 = .ok (.aload_n 0, 1) := by decide +kernel
theorem dX4_asks_42 : decode cX4_asks 42 = .ok (.iload_n 1, 1) := by decide +kernel
theorem dX4_asks_43 : decode cX4_asks 43 = .ok (.iload_n 2, 1) := by decide +kernel
theorem dX4_asks_44 : decode cX4_asks 44 = .ok (.iload_n 3, 1) := by decide +kernel
theorem dX4_asks_45 : decode cX4_asks 45 = .ok (.invokevirtual 52, 3) := by decide +kernel
theorem dX4_asks_48 : decode cX4_asks 48 = .ok (.goto 49, 3) := by decide +kernel
theorem dX4_asks_51 : decode cX4_asks 51 = .ok (.aload_n 0, 1) := by decide +kernel
theorem dX4_asks_52 : decode cX4_asks 52 = .ok (.iload_n 1, 1) := by decide +kernel
theorem dX4_asks_53 : decode cX4_asks 53 = .ok (.iload_n 2, 1) := by decide +kernel
theorem dX4_asks_54 : decode cX4_asks 54 = .ok (.iload 4, 2) := by decide +kernel
theorem dX4_asks_56 : decode cX4_asks 56 = .ok (.invokevirtual 55, 3) := by decide +kernel
theorem dX4_asks_59 : decode cX4_asks 59 = .ok (.ifCond .eq 38, 3) := by decide +kernel
theorem dX4_asks_62 : decode cX4_asks 62 = .ok (.aload_n 0, 1) := by decide +kernel
theorem dX4_asks_63 : decode cX4_asks 63 = .ok (.iload_n 1, 1) := by decide +kernel
theorem dX4_asks_64 : decode cX4_asks 64 = .ok (.iload_n 2, 1) := by decide +kernel
theorem dX4_asks_65 : decode cX4_asks 65 = .ok (.iload 4, 2) := by decide +kernel
theorem dX4_asks_67 : decode cX4_asks 67 = .ok (.invokevirtual 35, 3) := by decide +kernel
theorem dX4_asks_70 : decode cX4_asks 70 = .ok (.ifCond .ne 12, 3) := by decide +kernel
theorem dX4_asks_73 : decode cX4_asks 73 = .ok (.aload_n 0, 1) := by decide +kernel
theorem dX4_asks_74 : decode cX4_asks 74 = .ok (.iload_n 1, 1) := by decide +kernel
theorem dX4_asks_75 : decode cX4_asks 75 = .ok (.iload_n 2, 1) := by decide +kernel
theorem dX4_asks_76 : decode cX4_asks 76 = .ok (.iload 4, 2) := by decide +kernel
theorem dX4_asks_78 : decode cX4_asks 78 = .ok (.iconst 3, 1) := by decide +kernel
theorem dX4_asks_79 : decode cX4_asks 79 = .ok (.invokevirtual 45, 3) := by decide +kernel
theorem dX4_asks_82 : decode cX4_asks 82 = .ok (.aload_n 0, 1) := by decide +kernel
theorem dX4_asks_83 : decode cX4_asks 83 = .ok (.iload_n 1, 1) := by decide +kernel
theorem dX4_asks_84 : decode cX4_asks 84 = .ok (.iload_n 2, 1) := by decide +kernel
theorem dX4_asks_85 : decode cX4_asks 85 = .ok (.iload_n 3, 1) := by decide +kernel
theorem dX4_asks_86 : decode cX4_asks 86 = .ok (.aload_n 0, 1) := by decide +kernel
theorem dX4_asks_87 : decode cX4_asks 87 = .ok (.iload_n 1, 1) := by decide +kernel
theorem dX4_asks_88 : decode cX4_asks 88 = .ok (.iload_n 2, 1) := by decide +kernel
theorem dX4_asks_89 : decode cX4_asks 89 = .ok (.iload 4, 2) := by decide +kernel
theorem dX4_asks_91 : decode cX4_asks 91 = .ok (.invokevirtual 35, 3) := by decide +kernel
theorem dX4_asks_94 : decode cX4_asks 94 = .ok (.invokevirtual 45, 3) := by decide +kernel
theorem dX4_asks_97 : decode cX4_asks 97 = .ok (.return_, 1) := by decide +kernel
theorem dX4_asksAll_0 : decode cX4_asksAll 0 = .ok (.iconst 0, 1) := by decide +kernel
theorem dX4_asksAll_1 : decode cX4_asksAll 1 = .ok (.istore 4, 2) := by decide +kernel
theorem dX4_asksAll_3 : decode cX4_asksAll 3 = .ok (.iload 4, 2) := by decide +kernel
theorem dX4_asksAll_5 : decode cX4_asksAll 5 = .ok (.bipush 6, 2) := by decide +kernel
theorem dX4_asksAll_7 : decode cX4_asksAll 7 = .ok (.if_icmp .ge 45, 3) := by decide +kernel
theorem dX4_asksAll_10 : decode cX4_asksAll 10 = .ok (.aload_n 0, 1) := by decide +kernel
theorem dX4_asksAll_11 : decode cX4_asksAll 11 = .ok (.iload_n 1, 1) := by decide +kernel
theorem dX4_asksAll_12 : decode cX4_asksAll 12 = .ok (.iload_n 2, 1) := by decide +kernel
theorem dX4_asksAll_13 : decode cX4_asksAll 13 = .ok (.iload_n 3, 1) := by decide +kernel
theorem dX4_asksAll_14 : decode cX4_asksAll 14 = .ok (.invokevirtual 35, 3) := by decide +kernel
theorem dX4_asksAll_17 : decode cX4_asksAll 17 = .ok (.iconst 1, 1) := by decide +kernel
theorem dX4_asksAll_18 : decode cX4_asksAll 18 = .ok (.if_icmp .ne 34, 3) := by decide +kernel
theorem dX4_asksAll_21 : decode cX4_asksAll 21 = .ok (.iload 4, 2) := by decide +kernel
theorem dX4_asksAll_23 : decode cX4_asksAll 23 = .ok (.iload_n 3, 1) := by decide +kernel
theorem dX4_asksAll_24 : decode cX4_asksAll 24 = .ok (.if_icmp .eq 22, 3) := by decide +kernel
theorem dX4_asksAll_27 : decode cX4_asksAll 27 = .ok (.aload_n 0, 1) := by decide +kernel
theorem dX4_asksAll_28 : decode cX4_asksAll 28 = .ok (.iload_n 1, 1) := by decide +kernel
theorem dX4_asksAll_29 : decode cX4_asksAll 29 = .ok (.iload 4, 2) := by decide +kernel
theorem dX4_asksAll_31 : decode cX4_asksAll 31 = .ok (.invokevirtual 58, 3) := by decide +kernel
theorem dX4_asksAll_34 : decode cX4_asksAll 34 = .ok (.ifCond .eq 12, 3) := by decide +kernel
theorem dX4_asksAll_37 : decode cX4_asksAll 37 = .ok (.aload_n 0, 1) := by decide +kernel
theorem dX4_asksAll_38 : decode cX4_asksAll 38 = .ok (.iload_n 1, 1) := by decide +kernel
theorem dX4_asksAll_39 : decode cX4_asksAll 39 = .ok (.iload_n 2, 1) := by decide +kernel
theorem dX4_asksAll_40 : decode cX4_asksAll 40 = .ok (.iload_n 3, 1) := by decide +kernel
theorem dX4_asksAll_41 : decode cX4_asksAll 41 = .ok (.iload 4, 2) := by decide +kernel
theorem dX4_asksAll_43 : decode cX4_asksAll 43 = .ok (.invokevirtual 62, 3) := by decide +kernel
theorem dX4_asksAll_46 : decode cX4_asksAll 46 = .ok (.iinc 4 1, 3) := by decide +kernel
theorem dX4_asksAll_49 : decode cX4_asksAll 49 = .ok (.goto (-46), 3) := by decide +kernel
theorem dX4_asksAll_52 : decode cX4_asksAll 52 = .ok (.aload_n 0, 1) := by decide +kernel
theorem dX4_asksAll_53 : decode cX4_asksAll 53 = .ok (.getfield 7, 3) := by decide +kernel
theorem dX4_asksAll_56 : decode cX4_asksAll 56 = .ok (.iload_n 1, 1) := by decide +kernel
theorem dX4_asksAll_57 : decode cX4_asksAll 57 = .ok (.bipush 84, 2) := by decide +kernel
theorem dX4_asksAll_59 : decode cX4_asksAll 59 = .ok (.iadd, 1) := by decide +kernel
theorem dX4_asksAll_60 : decode cX4_asksAll 60 = .ok (.bipush 6, 2) := by decide +kernel
theorem dX4_asksAll_62 : decode cX4_asksAll 62 = .ok (.iload_n 2, 1) := by decide +kernel
theorem dX4_asksAll_63 : decode cX4_asksAll 63 = .ok (.imul, 1) := by decide +kernel
theorem dX4_asksAll_64 : decode cX4_asksAll 64 = .ok (.iadd, 1) := by decide +kernel
theorem dX4_asksAll_65 : decode cX4_asksAll 65 = .ok (.iload_n 3, 1) := by decide +kernel
theorem dX4_asksAll_66 : decode cX4_asksAll 66 = .ok (.iadd, 1) := by decide +kernel
theorem dX4_asksAll_67 : decode cX4_asksAll 67 = .ok (.aload_n 0, 1) := by decide +kernel
theorem dX4_asksAll_68 : decode cX4_asksAll 68 = .ok (.iload_n 1, 1) := by decide +kernel
theorem dX4_asksAll_69 : decode cX4_asksAll 69 = .ok (.iload_n 2, 1) := by decide +kernel
theorem dX4_asksAll_70 : decode cX4_asksAll 70 = .ok (.iload_n 3, 1) := by decide +kernel
theorem dX4_asksAll_71 : decode cX4_asksAll 71 = .ok (.invokevirtual 35, 3) := by decide +kernel
theorem dX4_asksAll_74 : decode cX4_asksAll 74 = .ok (.iconst 1, 1) := by decide +kernel
theorem dX4_asksAll_75 : decode cX4_asksAll 75 = .ok (.if_icmp .ne 14, 3) := by decide +kernel
theorem dX4_asksAll_78 : decode cX4_asksAll 78 = .ok (.aload_n 0, 1) := by decide +kernel
theorem dX4_asksAll_79 : decode cX4_asksAll 79 = .ok (.getfield 7, 3) := by decide +kernel
theorem dX4_asksAll_82 : decode cX4_asksAll 82 = .ok (.iload_n 1, 1) := by decide +kernel
theorem dX4_asksAll_83 : decode cX4_asksAll 83 = .ok (.iconst 2, 1) := by decide +kernel
theorem dX4_asksAll_84 : decode cX4_asksAll 84 = .ok (.iadd, 1) := by decide +kernel
theorem dX4_asksAll_85 : decode cX4_asksAll 85 = .ok (.iaload, 1) := by decide +kernel
theorem dX4_asksAll_86 : decode cX4_asksAll 86 = .ok (.goto 4, 3) := by decide +kernel
theorem dX4_asksAll_89 : decode cX4_asksAll 89 = .ok (.iconst 0, 1) := by decide +kernel
theorem dX4_asksAll_90 : decode cX4_asksAll 90 = .ok (.iastore, 1) := by decide +kernel
theorem dX4_asksAll_91 : decode cX4_asksAll 91 = .ok (.return_, 1) := by decide +kernel
theorem dX4_ticks_0 : decode cX4_ticks 0 = .ok (.iconst 0, 1) := by decide +kernel
theorem dX4_ticks_1 : decode cX4_ticks 1 = .ok (.istore_n 2, 1) := by decide +kernel
theorem dX4_ticks_2 : decode cX4_ticks 2 = .ok (.iload_n 2, 1) := by decide +kernel
theorem dX4_ticks_3 : decode cX4_ticks 3 = .ok (.bipush 6, 2) := by decide +kernel
theorem dX4_ticks_5 : decode cX4_ticks 5 = .ok (.aload_n 0, 1) := by decide +kernel
theorem dX4_ticks_6 : decode cX4_ticks 6 = .ok (.getfield 7, 3) := by decide +kernel
theorem dX4_ticks_9 : decode cX4_ticks 9 = .ok (.iload_n 1, 1) := by decide +kernel
theorem dX4_ticks_10 : decode cX4_ticks 10 = .ok (.iconst 3, 1) := by decide +kernel
theorem dX4_ticks_11 : decode cX4_ticks 11 = .ok (.iadd, 1) := by decide +kernel
theorem dX4_ticks_12 : decode cX4_ticks 12 = .ok (.iaload, 1) := by decide +kernel
theorem dX4_ticks_13 : decode cX4_ticks 13 = .ok (.imul, 1) := by decide +kernel
theorem dX4_ticks_14 : decode cX4_ticks 14 = .ok (.if_icmp .ge 79, 3) := by decide +kernel
theorem dX4_ticks_17 : decode cX4_ticks 17 = .ok (.iload_n 2, 1) := by decide +kernel
theorem dX4_ticks_18 : decode cX4_ticks 18 = .ok (.bipush 6, 2) := by decide +kernel
theorem dX4_ticks_20 : decode cX4_ticks 20 = .ok (.idiv, 1) := by decide +kernel
theorem dX4_ticks_21 : decode cX4_ticks 21 = .ok (.istore_n 3, 1) := by decide +kernel
theorem dX4_ticks_22 : decode cX4_ticks 22 = .ok (.iload_n 2, 1) := by decide +kernel
theorem dX4_ticks_23 : decode cX4_ticks 23 = .ok (.bipush 6, 2) := by decide +kernel
theorem dX4_ticks_25 : decode cX4_ticks 25 = .ok (.irem, 1) := by decide +kernel
theorem dX4_ticks_26 : decode cX4_ticks 26 = .ok (.istore 4, 2) := by decide +kernel
theorem dX4_ticks_28 : decode cX4_ticks 28 = .ok (.aload_n 0, 1) := by decide +kernel
theorem dX4_ticks_29 : decode cX4_ticks 29 = .ok (.iload_n 1, 1) := by decide +kernel
theorem dX4_ticks_30 : decode cX4_ticks 30 = .ok (.iload 4, 2) := by decide +kernel
theorem dX4_ticks_32 : decode cX4_ticks 32 = .ok (.invokevirtual 58, 3) := by decide +kernel
theorem dX4_ticks_35 : decode cX4_ticks 35 = .ok (.ifCond .eq 52, 3) := by decide +kernel
theorem dX4_ticks_38 : decode cX4_ticks 38 = .ok (.aload_n 0, 1) := by decide +kernel
theorem dX4_ticks_39 : decode cX4_ticks 39 = .ok (.iload_n 1, 1) := by decide +kernel
theorem dX4_ticks_40 : decode cX4_ticks 40 = .ok (.iload_n 3, 1) := by decide +kernel
theorem dX4_ticks_41 : decode cX4_ticks 41 = .ok (.iload 4, 2) := by decide +kernel
theorem dX4_ticks_43 : decode cX4_ticks 43 = .ok (.invokevirtual 35, 3) := by decide +kernel
theorem dX4_ticks_46 : decode cX4_ticks 46 = .ok (.iconst 1, 1) := by decide +kernel
theorem dX4_ticks_47 : decode cX4_ticks 47 = .ok (.if_icmp .ne 40, 3) := by decide +kernel
theorem dX4_ticks_50 : decode cX4_ticks 50 = .ok (.aload_n 0, 1) := by decide +kernel
theorem dX4_ticks_51 : decode cX4_ticks 51 = .ok (.getfield 7, 3) := by decide +kernel
theorem dX4_ticks_54 : decode cX4_ticks 54 = .ok (.iload_n 1, 1) := by decide +kernel
theorem dX4_ticks_55 : decode cX4_ticks 55 = .ok (.bipush 84, 2) := by decide +kernel
theorem dX4_ticks_57 : decode cX4_ticks 57 = .ok (.iadd, 1) := by decide +kernel
theorem dX4_ticks_58 : decode cX4_ticks 58 = .ok (.iload_n 2, 1) := by decide +kernel
theorem dX4_ticks_59 : decode cX4_ticks 59 = .ok (.iadd, 1) := by decide +kernel
theorem dX4_ticks_60 : decode cX4_ticks 60 = .ok (.dup2, 1) := by decide +kernel
theorem dX4_ticks_61 : decode cX4_ticks 61 = .ok (.iaload, 1) := by decide +kernel
theorem dX4_ticks_62 : decode cX4_ticks 62 = .ok (.iconst 1, 1) := by decide +kernel
theorem dX4_ticks_63 : decode cX4_ticks 63 = .ok (.isub, 1) := by decide +kernel
theorem dX4_ticks_64 : decode cX4_ticks 64 = .ok (.iastore, 1) := by decide +kernel
theorem dX4_ticks_65 : decode cX4_ticks 65 = .ok (.aload_n 0, 1) := by decide +kernel
theorem dX4_ticks_66 : decode cX4_ticks 66 = .ok (.getfield 7, 3) := by decide +kernel
theorem dX4_ticks_69 : decode cX4_ticks 69 = .ok (.iload_n 1, 1) := by decide +kernel
theorem dX4_ticks_70 : decode cX4_ticks 70 = .ok (.bipush 84, 2) := by decide +kernel
theorem dX4_ticks_72 : decode cX4_ticks 72 = .ok (.iadd, 1) := by decide +kernel
theorem dX4_ticks_73 : decode cX4_ticks 73 = .ok (.iload_n 2, 1) := by decide +kernel
theorem dX4_ticks_74 : decode cX4_ticks 74 = .ok (.iadd, 1) := by decide +kernel
theorem dX4_ticks_75 : decode cX4_ticks 75 = .ok (.iaload, 1) := by decide +kernel
theorem dX4_ticks_76 : decode cX4_ticks 76 = .ok (.ifCond .ne 11, 3) := by decide +kernel
theorem dX4_ticks_79 : decode cX4_ticks 79 = .ok (.aload_n 0, 1) := by decide +kernel
theorem dX4_ticks_80 : decode cX4_ticks 80 = .ok (.iload_n 1, 1) := by decide +kernel
theorem dX4_ticks_81 : decode cX4_ticks 81 = .ok (.iload_n 3, 1) := by decide +kernel
theorem dX4_ticks_82 : decode cX4_ticks 82 = .ok (.iload 4, 2) := by decide +kernel
theorem dX4_ticks_84 : decode cX4_ticks 84 = .ok (.invokevirtual 65, 3) := by decide +kernel
theorem dX4_ticks_87 : decode cX4_ticks 87 = .ok (.iinc 2 1, 3) := by decide +kernel
theorem dX4_ticks_90 : decode cX4_ticks 90 = .ok (.goto (-88), 3) := by decide +kernel
theorem dX4_ticks_93 : decode cX4_ticks 93 = .ok (.return_, 1) := by decide +kernel
theorem dX4_ended_0 : decode cX4_ended 0 = .ok (.iconst 0, 1) := by decide +kernel
theorem dX4_ended_1 : decode cX4_ended 1 = .ok (.istore_n 2, 1) := by decide +kernel
theorem dX4_ended_2 : decode cX4_ended 2 = .ok (.iconst 0, 1) := by decide +kernel
theorem dX4_ended_3 : decode cX4_ended 3 = .ok (.istore_n 3, 1) := by decide +kernel
theorem dX4_ended_4 : decode cX4_ended 4 = .ok (.iload_n 3, 1) := by decide +kernel
theorem dX4_ended_5 : decode cX4_ended 5 = .ok (.bipush 6, 2) := by decide +kernel
theorem dX4_ended_7 : decode cX4_ended 7 = .ok (.aload_n 0, 1) := by decide +kernel
theorem dX4_ended_8 : decode cX4_ended 8 = .ok (.getfield 7, 3) := by decide +kernel
theorem dX4_ended_11 : decode cX4_ended 11 = .ok (.iload_n 1, 1) := by decide +kernel
theorem dX4_ended_12 : decode cX4_ended 12 = .ok (.iconst 3, 1) := by decide +kernel
theorem dX4_ended_13 : decode cX4_ended 13 = .ok (.iadd, 1) := by decide +kernel
theorem dX4_ended_14 : decode cX4_ended 14 = .ok (.iaload, 1) := by decide +kernel
theorem dX4_ended_15 : decode cX4_ended 15 = .ok (.imul, 1) := by decide +kernel
theorem dX4_ended_16 : decode cX4_ended 16 = .ok (.if_icmp .ge 34, 3) := by decide +kernel
theorem dX4_ended_19 : decode cX4_ended 19 = .ok (.iload_n 2, 1) := by decide +kernel
theorem dX4_ended_20 : decode cX4_ended 20 = .ok (.aload_n 0, 1) := by decide +kernel
theorem dX4_ended_21 : decode cX4_ended 21 = .ok (.iload_n 1, 1) := by decide +kernel
theorem dX4_ended_22 : decode cX4_ended 22 = .ok (.iload_n 3, 1) := by decide +kernel
theorem dX4_ended_23 : decode cX4_ended 23 = .ok (.bipush 6, 2) := by decide +kernel
theorem dX4_ended_25 : decode cX4_ended 25 = .ok (.idiv, 1) := by decide +kernel
theorem dX4_ended_26 : decode cX4_ended 26 = .ok (.iload_n 3, 1) := by decide +kernel
theorem dX4_ended_27 : decode cX4_ended 27 = .ok (.bipush 6, 2) := by decide +kernel
theorem dX4_ended_29 : decode cX4_ended 29 = .ok (.irem, 1) := by decide +kernel
theorem dX4_ended_30 : decode cX4_ended 30 = .ok (.invokevirtual 35, 3) := by decide +kernel
theorem dX4_ended_33 : decode cX4_ended 33 = .ok (.iconst 2, 1) := by decide +kernel
theorem dX4_ended_34 : decode cX4_ended 34 = .ok (.if_icmp .lt 7, 3) := by decide +kernel
theorem dX4_ended_37 : decode cX4_ended 37 = .ok (.iconst 1, 1) := by decide +kernel
theorem dX4_ended_38 : decode cX4_ended 38 = .ok (.goto 4, 3) := by decide +kernel
theorem dX4_ended_41 : decode cX4_ended 41 = .ok (.iconst 0, 1) := by decide +kernel
theorem dX4_ended_42 : decode cX4_ended 42 = .ok (.iadd, 1) := by decide +kernel
theorem dX4_ended_43 : decode cX4_ended 43 = .ok (.istore_n 2, 1) := by decide +kernel
theorem dX4_ended_44 : decode cX4_ended 44 = .ok (.iinc 3 1, 3) := by decide +kernel
theorem dX4_ended_47 : decode cX4_ended 47 = .ok (.goto (-43), 3) := by decide +kernel
theorem dX4_ended_50 : decode cX4_ended 50 = .ok (.iload_n 2, 1) := by decide +kernel
theorem dX4_ended_51 : decode cX4_ended 51 = .ok (.ireturn, 1) := by decide +kernel
theorem dX4_passes_0 : decode cX4_passes 0 = .ok (.aload_n 0, 1) := by decide +kernel
theorem dX4_passes_1 : decode cX4_passes 1 = .ok (.iconst 0, 1) := by decide +kernel
theorem dX4_passes_2 : decode cX4_passes 2 = .ok (.invokevirtual 68, 3) := by decide +kernel
theorem dX4_passes_5 : decode cX4_passes 5 = .ok (.istore_n 2, 1) := by decide +kernel
theorem dX4_passes_6 : decode cX4_passes 6 = .ok (.iconst 0, 1) := by decide +kernel
theorem dX4_passes_7 : decode cX4_passes 7 = .ok (.istore_n 3, 1) := by decide +kernel
theorem dX4_passes_8 : decode cX4_passes 8 = .ok (.iload_n 3, 1) := by decide +kernel
theorem dX4_passes_9 : decode cX4_passes 9 = .ok (.iload_n 1, 1) := by decide +kernel
theorem dX4_passes_10 : decode cX4_passes 10 = .ok (.if_icmp .ge 14, 3) := by decide +kernel
theorem dX4_passes_13 : decode cX4_passes 13 = .ok (.aload_n 0, 1) := by decide +kernel
theorem dX4_passes_14 : decode cX4_passes 14 = .ok (.iconst 0, 1) := by decide +kernel
theorem dX4_passes_15 : decode cX4_passes 15 = .ok (.invokevirtual 72, 3) := by decide +kernel
theorem dX4_passes_18 : decode cX4_passes 18 = .ok (.iinc 3 1, 3) := by decide +kernel
theorem dX4_passes_21 : decode cX4_passes 21 = .ok (.goto (-13), 3) := by decide +kernel
theorem dX4_passes_24 : decode cX4_passes 24 = .ok (.aload_n 0, 1) := by decide +kernel
theorem dX4_passes_25 : decode cX4_passes 25 = .ok (.iconst 0, 1) := by decide +kernel
theorem dX4_passes_26 : decode cX4_passes 26 = .ok (.invokevirtual 68, 3) := by decide +kernel
theorem dX4_passes_29 : decode cX4_passes 29 = .ok (.iload_n 2, 1) := by decide +kernel
theorem dX4_passes_30 : decode cX4_passes 30 = .ok (.isub, 1) := by decide +kernel
theorem dX4_passes_31 : decode cX4_passes 31 = .ok (.ireturn, 1) := by decide +kernel
theorem dX4_inDoubt_0 : decode cX4_inDoubt 0 = .ok (.iconst 0, 1) := by decide +kernel
theorem dX4_inDoubt_1 : decode cX4_inDoubt 1 = .ok (.istore_n 2, 1) := by decide +kernel
theorem dX4_inDoubt_2 : decode cX4_inDoubt 2 = .ok (.iconst 0, 1) := by decide +kernel
theorem dX4_inDoubt_3 : decode cX4_inDoubt 3 = .ok (.istore_n 3, 1) := by decide +kernel
theorem dX4_inDoubt_4 : decode cX4_inDoubt 4 = .ok (.iload_n 3, 1) := by decide +kernel
theorem dX4_inDoubt_5 : decode cX4_inDoubt 5 = .ok (.aload_n 0, 1) := by decide +kernel
theorem dX4_inDoubt_6 : decode cX4_inDoubt 6 = .ok (.getfield 7, 3) := by decide +kernel
theorem dX4_inDoubt_9 : decode cX4_inDoubt 9 = .ok (.iconst 3, 1) := by decide +kernel
theorem dX4_inDoubt_10 : decode cX4_inDoubt 10 = .ok (.iaload, 1) := by decide +kernel
theorem dX4_inDoubt_11 : decode cX4_inDoubt 11 = .ok (.if_icmp .ge 28, 3) := by decide +kernel
theorem dX4_inDoubt_14 : decode cX4_inDoubt 14 = .ok (.iload_n 2, 1) := by decide +kernel
theorem dX4_inDoubt_15 : decode cX4_inDoubt 15 = .ok (.aload_n 0, 1) := by decide +kernel
theorem dX4_inDoubt_16 : decode cX4_inDoubt 16 = .ok (.iconst 0, 1) := by decide +kernel
theorem dX4_inDoubt_17 : decode cX4_inDoubt 17 = .ok (.iload_n 3, 1) := by decide +kernel
theorem dX4_inDoubt_18 : decode cX4_inDoubt 18 = .ok (.iload_n 1, 1) := by decide +kernel
theorem dX4_inDoubt_19 : decode cX4_inDoubt 19 = .ok (.invokevirtual 35, 3) := by decide +kernel
theorem dX4_inDoubt_22 : decode cX4_inDoubt 22 = .ok (.iconst 1, 1) := by decide +kernel
theorem dX4_inDoubt_23 : decode cX4_inDoubt 23 = .ok (.if_icmp .ne 7, 3) := by decide +kernel
theorem dX4_inDoubt_26 : decode cX4_inDoubt 26 = .ok (.iconst 1, 1) := by decide +kernel
theorem dX4_inDoubt_27 : decode cX4_inDoubt 27 = .ok (.goto 4, 3) := by decide +kernel
theorem dX4_inDoubt_30 : decode cX4_inDoubt 30 = .ok (.iconst 0, 1) := by decide +kernel
theorem dX4_inDoubt_31 : decode cX4_inDoubt 31 = .ok (.iadd, 1) := by decide +kernel
theorem dX4_inDoubt_32 : decode cX4_inDoubt 32 = .ok (.istore_n 2, 1) := by decide +kernel
theorem dX4_inDoubt_33 : decode cX4_inDoubt 33 = .ok (.iinc 3 1, 3) := by decide +kernel
theorem dX4_inDoubt_36 : decode cX4_inDoubt 36 = .ok (.goto (-32), 3) := by decide +kernel
theorem dX4_inDoubt_39 : decode cX4_inDoubt 39 = .ok (.iload_n 2, 1) := by decide +kernel
theorem dX4_inDoubt_40 : decode cX4_inDoubt 40 = .ok (.ireturn, 1) := by decide +kernel
theorem dX4_comes_0 : decode cX4_comes 0 = .ok (.aload_n 0, 1) := by decide +kernel
theorem dX4_comes_1 : decode cX4_comes 1 = .ok (.getfield 7, 3) := by decide +kernel
theorem dX4_comes_4 : decode cX4_comes 4 = .ok (.sipush 132, 3) := by decide +kernel
theorem dX4_comes_7 : decode cX4_comes 7 = .ok (.bipush 25, 2) := by decide +kernel
theorem dX4_comes_9 : decode cX4_comes 9 = .ok (.iload_n 1, 1) := by decide +kernel
theorem dX4_comes_10 : decode cX4_comes 10 = .ok (.imul, 1) := by decide +kernel
theorem dX4_comes_11 : decode cX4_comes 11 = .ok (.iadd, 1) := by decide +kernel
theorem dX4_comes_12 : decode cX4_comes 12 = .ok (.iaload, 1) := by decide +kernel
theorem dX4_comes_13 : decode cX4_comes 13 = .ok (.istore_n 2, 1) := by decide +kernel
theorem dX4_comes_14 : decode cX4_comes 14 = .ok (.aload_n 0, 1) := by decide +kernel
theorem dX4_comes_15 : decode cX4_comes 15 = .ok (.getfield 7, 3) := by decide +kernel
theorem dX4_comes_18 : decode cX4_comes 18 = .ok (.iconst 0, 1) := by decide +kernel
theorem dX4_comes_19 : decode cX4_comes 19 = .ok (.dup2, 1) := by decide +kernel
theorem dX4_comes_20 : decode cX4_comes 20 = .ok (.iaload, 1) := by decide +kernel
theorem dX4_comes_21 : decode cX4_comes 21 = .ok (.iconst 1, 1) := by decide +kernel
theorem dX4_comes_22 : decode cX4_comes 22 = .ok (.iload_n 1, 1) := by decide +kernel
theorem dX4_comes_23 : decode cX4_comes 23 = .ok (.ishl, 1) := by decide +kernel
theorem dX4_comes_24 : decode cX4_comes 24 = .ok (.ior, 1) := by decide +kernel
theorem dX4_comes_25 : decode cX4_comes 25 = .ok (.iastore, 1) := by decide +kernel
theorem dX4_comes_26 : decode cX4_comes 26 = .ok (.iconst 0, 1) := by decide +kernel
theorem dX4_comes_27 : decode cX4_comes 27 = .ok (.istore_n 3, 1) := by decide +kernel
theorem dX4_comes_28 : decode cX4_comes 28 = .ok (.iload_n 3, 1) := by decide +kernel
theorem dX4_comes_29 : decode cX4_comes 29 = .ok (.aload_n 0, 1) := by decide +kernel
theorem dX4_comes_30 : decode cX4_comes 30 = .ok (.getfield 7, 3) := by decide +kernel
theorem dX4_comes_33 : decode cX4_comes 33 = .ok (.iconst 3, 1) := by decide +kernel
theorem dX4_comes_34 : decode cX4_comes 34 = .ok (.iaload, 1) := by decide +kernel
theorem dX4_comes_35 : decode cX4_comes 35 = .ok (.if_icmp .ge 55, 3) := by decide +kernel
theorem dX4_comes_38 : decode cX4_comes 38 = .ok (.aload_n 0, 1) := by decide +kernel
theorem dX4_comes_39 : decode cX4_comes 39 = .ok (.iconst 0, 1) := by decide +kernel
theorem dX4_comes_40 : decode cX4_comes 40 = .ok (.iload_n 3, 1) := by decide +kernel
theorem dX4_comes_41 : decode cX4_comes 41 = .ok (.iload_n 1, 1) := by decide +kernel
theorem dX4_comes_42 : decode cX4_comes 42 = .ok (.invokevirtual 35, 3) := by decide +kernel
theorem dX4_comes_45 : decode cX4_comes 45 = .ok (.ifCond .ne 11, 3) := by decide +kernel
theorem dX4_comes_48 : decode cX4_comes 48 = .ok (.aload_n 0, 1) := by decide +kernel
theorem dX4_comes_49 : decode cX4_comes 49 = .ok (.iconst 0, 1) := by decide +kernel
theorem dX4_comes_50 : decode cX4_comes 50 = .ok (.iload_n 3, 1) := by decide +kernel
theorem dX4_comes_51 : decode cX4_comes 51 = .ok (.iload_n 1, 1) := by decide +kernel
theorem dX4_comes_52 : decode cX4_comes 52 = .ok (.iconst 3, 1) := by decide +kernel
theorem dX4_comes_53 : decode cX4_comes 53 = .ok (.invokevirtual 45, 3) := by decide +kernel
theorem dX4_comes_56 : decode cX4_comes 56 = .ok (.aload_n 0, 1) := by decide +kernel
theorem dX4_comes_57 : decode cX4_comes 57 = .ok (.iconst 0, 1) := by decide +kernel
theorem dX4_comes_58 : decode cX4_comes 58 = .ok (.iload_n 3, 1) := by decide +kernel
theorem dX4_comes_59 : decode cX4_comes 59 = .ok (.iconst 0, 1) := by decide +kernel
theorem dX4_comes_60 : decode cX4_comes 60 = .ok (.invokevirtual 24, 3) := by decide +kernel
theorem dX4_comes_63 : decode cX4_comes 63 = .ok (.iload_n 1, 1) := by decide +kernel
theorem dX4_comes_64 : decode cX4_comes 64 = .ok (.if_icmp .ne 20, 3) := by decide +kernel
theorem dX4_comes_67 : decode cX4_comes 67 = .ok (.aload_n 0, 1) := by decide +kernel
theorem dX4_comes_68 : decode cX4_comes 68 = .ok (.iconst 0, 1) := by decide +kernel
theorem dX4_comes_69 : decode cX4_comes 69 = .ok (.iload_n 3, 1) := by decide +kernel
theorem dX4_comes_70 : decode cX4_comes 70 = .ok (.iconst 3, 1) := by decide +kernel
theorem dX4_comes_71 : decode cX4_comes 71 = .ok (.invokevirtual 24, 3) := by decide +kernel
theorem dX4_comes_74 : decode cX4_comes 74 = .ok (.ifCond .ne 10, 3) := by decide +kernel
theorem dX4_comes_77 : decode cX4_comes 77 = .ok (.aload_n 0, 1) := by decide +kernel
theorem dX4_comes_78 : decode cX4_comes 78 = .ok (.iconst 0, 1) := by decide +kernel
theorem dX4_comes_79 : decode cX4_comes 79 = .ok (.iload_n 3, 1) := by decide +kernel
theorem dX4_comes_80 : decode cX4_comes 80 = .ok (.iconst 3, 1) := by decide +kernel
theorem dX4_comes_81 : decode cX4_comes 81 = .ok (.invokevirtual 49, 3) := by decide +kernel
theorem dX4_comes_84 : decode cX4_comes 84 = .ok (.iinc 3 1, 3) := by decide +kernel
theorem dX4_comes_87 : decode cX4_comes 87 = .ok (.goto (-59), 3) := by decide +kernel
theorem dX4_comes_90 : decode cX4_comes 90 = .ok (.aload_n 0, 1) := by decide +kernel
theorem dX4_comes_91 : decode cX4_comes 91 = .ok (.getfield 7, 3) := by decide +kernel
theorem dX4_comes_94 : decode cX4_comes 94 = .ok (.sipush 132, 3) := by decide +kernel
theorem dX4_comes_97 : decode cX4_comes 97 = .ok (.bipush 25, 2) := by decide +kernel
theorem dX4_comes_99 : decode cX4_comes 99 = .ok (.iload_n 1, 1) := by decide +kernel
theorem dX4_comes_100 : decode cX4_comes 100 = .ok (.imul, 1) := by decide +kernel
theorem dX4_comes_101 : decode cX4_comes 101 = .ok (.iadd, 1) := by decide +kernel
theorem dX4_comes_102 : decode cX4_comes 102 = .ok (.iaload, 1) := by decide +kernel
theorem dX4_comes_103 : decode cX4_comes 103 = .ok (.iload_n 2, 1) := by decide +kernel
theorem dX4_comes_104 : decode cX4_comes 104 = .ok (.isub, 1) := by decide +kernel
theorem dX4_comes_105 : decode cX4_comes 105 = .ok (.ireturn, 1) := by decide +kernel
theorem dX4_canVote_0 : decode cX4_canVote 0 = .ok (.aload_n 0, 1) := by decide +kernel
theorem dX4_canVote_1 : decode cX4_canVote 1 = .ok (.iconst 0, 1) := by decide +kernel
theorem dX4_canVote_2 : decode cX4_canVote 2 = .ok (.iload_n 2, 1) := by decide +kernel
theorem dX4_canVote_3 : decode cX4_canVote 3 = .ok (.invokevirtual 58, 3) := by decide +kernel
theorem dX4_canVote_6 : decode cX4_canVote 6 = .ok (.ifCond .eq 17, 3) := by decide +kernel
theorem dX4_canVote_9 : decode cX4_canVote 9 = .ok (.aload_n 0, 1) := by decide +kernel
theorem dX4_canVote_10 : decode cX4_canVote 10 = .ok (.iconst 0, 1) := by decide +kernel
theorem dX4_canVote_11 : decode cX4_canVote 11 = .ok (.iload_n 1, 1) := by decide +kernel
theorem dX4_canVote_12 : decode cX4_canVote 12 = .ok (.iload_n 2, 1) := by decide +kernel
theorem dX4_canVote_13 : decode cX4_canVote 13 = .ok (.invokevirtual 35, 3) := by decide +kernel
theorem dX4_canVote_16 : decode cX4_canVote 16 = .ok (.ifCond .ne 7, 3) := by decide +kernel
theorem dX4_canVote_19 : decode cX4_canVote 19 = .ok (.iconst 1, 1) := by decide +kernel
theorem dX4_canVote_20 : decode cX4_canVote 20 = .ok (.goto 4, 3) := by decide +kernel
theorem dX4_canVote_23 : decode cX4_canVote 23 = .ok (.iconst 0, 1) := by decide +kernel
theorem dX4_canVote_24 : decode cX4_canVote 24 = .ok (.ireturn, 1) := by decide +kernel
theorem dX4_canDecide_0 : decode cX4_canDecide 0 = .ok (.aload_n 0, 1) := by decide +kernel
theorem dX4_canDecide_1 : decode cX4_canDecide 1 = .ok (.iconst 0, 1) := by decide +kernel
theorem dX4_canDecide_2 : decode cX4_canDecide 2 = .ok (.aload_n 0, 1) := by decide +kernel
theorem dX4_canDecide_3 : decode cX4_canDecide 3 = .ok (.iconst 0, 1) := by decide +kernel
theorem dX4_canDecide_4 : decode cX4_canDecide 4 = .ok (.iload_n 1, 1) := by decide +kernel
theorem dX4_canDecide_5 : decode cX4_canDecide 5 = .ok (.iconst 0, 1) := by decide +kernel
theorem dX4_canDecide_6 : decode cX4_canDecide 6 = .ok (.invokevirtual 24, 3) := by decide +kernel
theorem dX4_canDecide_9 : decode cX4_canDecide 9 = .ok (.invokevirtual 58, 3) := by decide +kernel
theorem dX4_canDecide_12 : decode cX4_canDecide 12 = .ok (.ifCond .eq 17, 3) := by decide +kernel
theorem dX4_canDecide_15 : decode cX4_canDecide 15 = .ok (.aload_n 0, 1) := by decide +kernel
theorem dX4_canDecide_16 : decode cX4_canDecide 16 = .ok (.iconst 0, 1) := by decide +kernel
theorem dX4_canDecide_17 : decode cX4_canDecide 17 = .ok (.iload_n 1, 1) := by decide +kernel
theorem dX4_canDecide_18 : decode cX4_canDecide 18 = .ok (.iconst 3, 1) := by decide +kernel
theorem dX4_canDecide_19 : decode cX4_canDecide 19 = .ok (.invokevirtual 24, 3) := by decide +kernel
theorem dX4_canDecide_22 : decode cX4_canDecide 22 = .ok (.ifCond .ne 7, 3) := by decide +kernel
theorem dX4_canDecide_25 : decode cX4_canDecide 25 = .ok (.iconst 1, 1) := by decide +kernel
theorem dX4_canDecide_26 : decode cX4_canDecide 26 = .ok (.goto 4, 3) := by decide +kernel
theorem dX4_canDecide_29 : decode cX4_canDecide 29 = .ok (.iconst 0, 1) := by decide +kernel
theorem dX4_canDecide_30 : decode cX4_canDecide 30 = .ok (.ireturn, 1) := by decide +kernel
theorem dX4_canTell_0 : decode cX4_canTell 0 = .ok (.aload_n 0, 1) := by decide +kernel
theorem dX4_canTell_1 : decode cX4_canTell 1 = .ok (.iconst 0, 1) := by decide +kernel
theorem dX4_canTell_2 : decode cX4_canTell 2 = .ok (.iload_n 1, 1) := by decide +kernel
theorem dX4_canTell_3 : decode cX4_canTell 3 = .ok (.iload_n 2, 1) := by decide +kernel
theorem dX4_canTell_4 : decode cX4_canTell 4 = .ok (.invokevirtual 28, 3) := by decide +kernel
theorem dX4_canTell_7 : decode cX4_canTell 7 = .ok (.ifCond .eq 41, 3) := by decide +kernel
theorem dX4_canTell_10 : decode cX4_canTell 10 = .ok (.aload_n 0, 1) := by decide +kernel
theorem dX4_canTell_11 : decode cX4_canTell 11 = .ok (.iconst 0, 1) := by decide +kernel
theorem dX4_canTell_12 : decode cX4_canTell 12 = .ok (.iload_n 2, 1) := by decide +kernel
theorem dX4_canTell_13 : decode cX4_canTell 13 = .ok (.invokevirtual 58, 3) := by decide +kernel
theorem dX4_canTell_16 : decode cX4_canTell 16 = .ok (.ifCond .eq 32, 3) := by decide +kernel
theorem dX4_canTell_19 : decode cX4_canTell 19 = .ok (.aload_n 0, 1) := by decide +kernel
theorem dX4_canTell_20 : decode cX4_canTell 20 = .ok (.iconst 0, 1) := by decide +kernel
theorem dX4_canTell_21 : decode cX4_canTell 21 = .ok (.aload_n 0, 1) := by decide +kernel
theorem dX4_canTell_22 : decode cX4_canTell 22 = .ok (.iconst 0, 1) := by decide +kernel
theorem dX4_canTell_23 : decode cX4_canTell 23 = .ok (.iload_n 1, 1) := by decide +kernel
theorem dX4_canTell_24 : decode cX4_canTell 24 = .ok (.iconst 0, 1) := by decide +kernel
theorem dX4_canTell_25 : decode cX4_canTell 25 = .ok (.invokevirtual 24, 3) := by decide +kernel
theorem dX4_canTell_28 : decode cX4_canTell 28 = .ok (.invokevirtual 58, 3) := by decide +kernel
theorem dX4_canTell_31 : decode cX4_canTell 31 = .ok (.ifCond .eq 17, 3) := by decide +kernel
theorem dX4_canTell_34 : decode cX4_canTell 34 = .ok (.aload_n 0, 1) := by decide +kernel
theorem dX4_canTell_35 : decode cX4_canTell 35 = .ok (.iconst 0, 1) := by decide +kernel
theorem dX4_canTell_36 : decode cX4_canTell 36 = .ok (.iload_n 1, 1) := by decide +kernel
theorem dX4_canTell_37 : decode cX4_canTell 37 = .ok (.iconst 3, 1) := by decide +kernel
theorem dX4_canTell_38 : decode cX4_canTell 38 = .ok (.invokevirtual 24, 3) := by decide +kernel
theorem dX4_canTell_41 : decode cX4_canTell 41 = .ok (.ifCond .eq 7, 3) := by decide +kernel
theorem dX4_canTell_44 : decode cX4_canTell 44 = .ok (.iconst 1, 1) := by decide +kernel
theorem dX4_canTell_45 : decode cX4_canTell 45 = .ok (.goto 4, 3) := by decide +kernel
theorem dX4_canTell_48 : decode cX4_canTell 48 = .ok (.iconst 0, 1) := by decide +kernel
theorem dX4_canTell_49 : decode cX4_canTell 49 = .ok (.ireturn, 1) := by decide +kernel
theorem dX4_canAsk_0 : decode cX4_canAsk 0 = .ok (.aload_n 0, 1) := by decide +kernel
theorem dX4_canAsk_1 : decode cX4_canAsk 1 = .ok (.iconst 0, 1) := by decide +kernel
theorem dX4_canAsk_2 : decode cX4_canAsk 2 = .ok (.iload_n 2, 1) := by decide +kernel
theorem dX4_canAsk_3 : decode cX4_canAsk 3 = .ok (.invokevirtual 58, 3) := by decide +kernel
theorem dX4_canAsk_6 : decode cX4_canAsk 6 = .ok (.ifCond .eq 27, 3) := by decide +kernel
theorem dX4_canAsk_9 : decode cX4_canAsk 9 = .ok (.aload_n 0, 1) := by decide +kernel
theorem dX4_canAsk_10 : decode cX4_canAsk 10 = .ok (.iconst 0, 1) := by decide +kernel
theorem dX4_canAsk_11 : decode cX4_canAsk 11 = .ok (.iload_n 3, 1) := by decide +kernel
theorem dX4_canAsk_12 : decode cX4_canAsk 12 = .ok (.invokevirtual 58, 3) := by decide +kernel
theorem dX4_canAsk_15 : decode cX4_canAsk 15 = .ok (.ifCond .eq 18, 3) := by decide +kernel
theorem dX4_canAsk_18 : decode cX4_canAsk 18 = .ok (.aload_n 0, 1) := by decide +kernel
theorem dX4_canAsk_19 : decode cX4_canAsk 19 = .ok (.iconst 0, 1) := by decide +kernel
theorem dX4_canAsk_20 : decode cX4_canAsk 20 = .ok (.iload_n 1, 1) := by decide +kernel
theorem dX4_canAsk_21 : decode cX4_canAsk 21 = .ok (.iload_n 2, 1) := by decide +kernel
theorem dX4_canAsk_22 : decode cX4_canAsk 22 = .ok (.invokevirtual 35, 3) := by decide +kernel
theorem dX4_canAsk_25 : decode cX4_canAsk 25 = .ok (.iconst 1, 1) := by decide +kernel
theorem dX4_canAsk_26 : decode cX4_canAsk 26 = .ok (.if_icmp .ne 7, 3) := by decide +kernel
theorem dX4_canAsk_29 : decode cX4_canAsk 29 = .ok (.iconst 1, 1) := by decide +kernel
theorem dX4_canAsk_30 : decode cX4_canAsk 30 = .ok (.goto 4, 3) := by decide +kernel
theorem dX4_canAsk_33 : decode cX4_canAsk 33 = .ok (.iconst 0, 1) := by decide +kernel
theorem dX4_canAsk_34 : decode cX4_canAsk 34 = .ok (.ireturn, 1) := by decide +kernel
theorem dX4_copies_0 : decode cX4_copies 0 = .ok (.iconst 0, 1) := by decide +kernel
theorem dX4_copies_1 : decode cX4_copies 1 = .ok (.istore_n 3, 1) := by decide +kernel
theorem dX4_copies_2 : decode cX4_copies 2 = .ok (.iload_n 3, 1) := by decide +kernel
theorem dX4_copies_3 : decode cX4_copies 3 = .ok (.sipush 282, 3) := by decide +kernel
theorem dX4_copies_6 : decode cX4_copies 6 = .ok (.if_icmp .ge 33, 3) := by decide +kernel
theorem dX4_copies_9 : decode cX4_copies 9 = .ok (.aload_n 0, 1) := by decide +kernel
theorem dX4_copies_10 : decode cX4_copies 10 = .ok (.getfield 7, 3) := by decide +kernel
theorem dX4_copies_13 : decode cX4_copies 13 = .ok (.sipush 282, 3) := by decide +kernel
theorem dX4_copies_16 : decode cX4_copies 16 = .ok (.iload_n 2, 1) := by decide +kernel
theorem dX4_copies_17 : decode cX4_copies 17 = .ok (.imul, 1) := by decide +kernel
theorem dX4_copies_18 : decode cX4_copies 18 = .ok (.iload_n 3, 1) := by decide +kernel
theorem dX4_copies_19 : decode cX4_copies 19 = .ok (.iadd, 1) := by decide +kernel
theorem dX4_copies_20 : decode cX4_copies 20 = .ok (.aload_n 0, 1) := by decide +kernel
theorem dX4_copies_21 : decode cX4_copies 21 = .ok (.getfield 7, 3) := by decide +kernel
theorem dX4_copies_24 : decode cX4_copies 24 = .ok (.sipush 282, 3) := by decide +kernel
theorem dX4_copies_27 : decode cX4_copies 27 = .ok (.iload_n 1, 1) := by decide +kernel
theorem dX4_copies_28 : decode cX4_copies 28 = .ok (.imul, 1) := by decide +kernel
theorem dX4_copies_29 : decode cX4_copies 29 = .ok (.iload_n 3, 1) := by decide +kernel
theorem dX4_copies_30 : decode cX4_copies 30 = .ok (.iadd, 1) := by decide +kernel
theorem dX4_copies_31 : decode cX4_copies 31 = .ok (.iaload, 1) := by decide +kernel
theorem dX4_copies_32 : decode cX4_copies 32 = .ok (.iastore, 1) := by decide +kernel
theorem dX4_copies_33 : decode cX4_copies 33 = .ok (.iinc 3 1, 3) := by decide +kernel
theorem dX4_copies_36 : decode cX4_copies 36 = .ok (.goto (-34), 3) := by decide +kernel
theorem dX4_copies_39 : decode cX4_copies 39 = .ok (.return_, 1) := by decide +kernel
theorem dX4_save_0 : decode cX4_save 0 = .ok (.iconst 1, 1) := by decide +kernel
theorem dX4_save_1 : decode cX4_save 1 = .ok (.istore_n 1, 1) := by decide +kernel
theorem dX4_save_2 : decode cX4_save 2 = .ok (.iload_n 1, 1) := by decide +kernel
theorem dX4_save_3 : decode cX4_save 3 = .ok (.bipush 6, 2) := by decide +kernel
theorem dX4_save_5 : decode cX4_save 5 = .ok (.if_icmp .ge 26, 3) := by decide +kernel
theorem dX4_save_8 : decode cX4_save 8 = .ok (.aload_n 0, 1) := by decide +kernel
theorem dX4_save_9 : decode cX4_save 9 = .ok (.getfield 76, 3) := by decide +kernel
theorem dX4_save_12 : decode cX4_save 12 = .ok (.bipush 6, 2) := by decide +kernel
theorem dX4_save_14 : decode cX4_save 14 = .ok (.if_icmp .ne 17, 3) := by decide +kernel
theorem dX4_save_17 : decode cX4_save 17 = .ok (.aload_n 0, 1) := by decide +kernel
theorem dX4_save_18 : decode cX4_save 18 = .ok (.iload_n 1, 1) := by decide +kernel
theorem dX4_save_19 : decode cX4_save 19 = .ok (.iconst 1, 1) := by decide +kernel
theorem dX4_save_20 : decode cX4_save 20 = .ok (.iadd, 1) := by decide +kernel
theorem dX4_save_21 : decode cX4_save 21 = .ok (.iload_n 1, 1) := by decide +kernel
theorem dX4_save_22 : decode cX4_save 22 = .ok (.invokevirtual 79, 3) := by decide +kernel
theorem dX4_save_25 : decode cX4_save 25 = .ok (.iinc 1 1, 3) := by decide +kernel
theorem dX4_save_28 : decode cX4_save 28 = .ok (.goto (-26), 3) := by decide +kernel
theorem dX4_save_31 : decode cX4_save 31 = .ok (.aload_n 0, 1) := by decide +kernel
theorem dX4_save_32 : decode cX4_save 32 = .ok (.dup, 1) := by decide +kernel
theorem dX4_save_33 : decode cX4_save 33 = .ok (.getfield 76, 3) := by decide +kernel
theorem dX4_save_36 : decode cX4_save 36 = .ok (.aload_n 0, 1) := by decide +kernel
theorem dX4_save_37 : decode cX4_save 37 = .ok (.getfield 76, 3) := by decide +kernel
theorem dX4_save_40 : decode cX4_save 40 = .ok (.bipush 6, 2) := by decide +kernel
theorem dX4_save_42 : decode cX4_save 42 = .ok (.if_icmp .ge 7, 3) := by decide +kernel
theorem dX4_save_45 : decode cX4_save 45 = .ok (.iconst 1, 1) := by decide +kernel
theorem dX4_save_46 : decode cX4_save 46 = .ok (.goto 4, 3) := by decide +kernel
theorem dX4_save_49 : decode cX4_save 49 = .ok (.iconst 0, 1) := by decide +kernel
theorem dX4_save_50 : decode cX4_save 50 = .ok (.iadd, 1) := by decide +kernel
theorem dX4_save_51 : decode cX4_save 51 = .ok (.putfield 76, 3) := by decide +kernel
theorem dX4_save_54 : decode cX4_save 54 = .ok (.aload_n 0, 1) := by decide +kernel
theorem dX4_save_55 : decode cX4_save 55 = .ok (.iconst 0, 1) := by decide +kernel
theorem dX4_save_56 : decode cX4_save 56 = .ok (.aload_n 0, 1) := by decide +kernel
theorem dX4_save_57 : decode cX4_save 57 = .ok (.getfield 76, 3) := by decide +kernel
theorem dX4_save_60 : decode cX4_save 60 = .ok (.invokevirtual 79, 3) := by decide +kernel
theorem dX4_save_63 : decode cX4_save 63 = .ok (.return_, 1) := by decide +kernel
theorem dX4_bits_0 : decode cX4_bits 0 = .ok (.iconst 0, 1) := by decide +kernel
theorem dX4_bits_1 : decode cX4_bits 1 = .ok (.istore_n 1, 1) := by decide +kernel
theorem dX4_bits_2 : decode cX4_bits 2 = .ok (.iconst 0, 1) := by decide +kernel
theorem dX4_bits_3 : decode cX4_bits 3 = .ok (.istore_n 2, 1) := by decide +kernel
theorem dX4_bits_4 : decode cX4_bits 4 = .ok (.iload_n 2, 1) := by decide +kernel
theorem dX4_bits_5 : decode cX4_bits 5 = .ok (.bipush 6, 2) := by decide +kernel
theorem dX4_bits_7 : decode cX4_bits 7 = .ok (.if_icmp .ge 17, 3) := by decide +kernel
theorem dX4_bits_10 : decode cX4_bits 10 = .ok (.iload_n 1, 1) := by decide +kernel
theorem dX4_bits_11 : decode cX4_bits 11 = .ok (.iload_n 0, 1) := by decide +kernel
theorem dX4_bits_12 : decode cX4_bits 12 = .ok (.iload_n 2, 1) := by decide +kernel
theorem dX4_bits_13 : decode cX4_bits 13 = .ok (.ishr, 1) := by decide +kernel
theorem dX4_bits_14 : decode cX4_bits 14 = .ok (.iconst 1, 1) := by decide +kernel
theorem dX4_bits_15 : decode cX4_bits 15 = .ok (.iand, 1) := by decide +kernel
theorem dX4_bits_16 : decode cX4_bits 16 = .ok (.iadd, 1) := by decide +kernel
theorem dX4_bits_17 : decode cX4_bits 17 = .ok (.istore_n 1, 1) := by decide +kernel
theorem dX4_bits_18 : decode cX4_bits 18 = .ok (.iinc 2 1, 3) := by decide +kernel
theorem dX4_bits_21 : decode cX4_bits 21 = .ok (.goto (-17), 3) := by decide +kernel
theorem dX4_bits_24 : decode cX4_bits 24 = .ok (.iload_n 1, 1) := by decide +kernel
theorem dX4_bits_25 : decode cX4_bits 25 = .ok (.ireturn, 1) := by decide +kernel
theorem dX4_begin_0 : decode cX4_begin 0 = .ok (.iload_n 2, 1) := by decide +kernel
theorem dX4_begin_1 : decode cX4_begin 1 = .ok (.iconst 1, 1) := by decide +kernel
theorem dX4_begin_2 : decode cX4_begin 2 = .ok (.bipush 63, 2) := by decide +kernel
theorem dX4_begin_4 : decode cX4_begin 4 = .ok (.invokestatic 20, 3) := by decide +kernel
theorem dX4_begin_7 : decode cX4_begin 7 = .ok (.ifCond .eq 25, 3) := by decide +kernel
theorem dX4_begin_10 : decode cX4_begin 10 = .ok (.iload_n 2, 1) := by decide +kernel
theorem dX4_begin_11 : decode cX4_begin 11 = .ok (.invokestatic 83, 3) := by decide +kernel
theorem dX4_begin_14 : decode cX4_begin 14 = .ok (.iconst 2, 1) := by decide +kernel
theorem dX4_begin_15 : decode cX4_begin 15 = .ok (.if_icmp .lt 17, 3) := by decide +kernel
theorem dX4_begin_18 : decode cX4_begin 18 = .ok (.iload_n 3, 1) := by decide +kernel
theorem dX4_begin_19 : decode cX4_begin 19 = .ok (.iconst 0, 1) := by decide +kernel
theorem dX4_begin_20 : decode cX4_begin 20 = .ok (.bipush 9, 2) := by decide +kernel
theorem dX4_begin_22 : decode cX4_begin 22 = .ok (.invokestatic 20, 3) := by decide +kernel
theorem dX4_begin_25 : decode cX4_begin 25 = .ok (.ifCond .eq 7, 3) := by decide +kernel
theorem dX4_begin_28 : decode cX4_begin 28 = .ok (.iconst 1, 1) := by decide +kernel
theorem dX4_begin_29 : decode cX4_begin 29 = .ok (.goto 4, 3) := by decide +kernel
theorem dX4_begin_32 : decode cX4_begin 32 = .ok (.iconst 0, 1) := by decide +kernel
theorem dX4_begin_33 : decode cX4_begin 33 = .ok (.istore 4, 2) := by decide +kernel
theorem dX4_begin_35 : decode cX4_begin 35 = .ok (.iload_n 1, 1) := by decide +kernel
theorem dX4_begin_36 : decode cX4_begin 36 = .ok (.invokestatic 86, 3) := by decide +kernel
theorem dX4_begin_39 : decode cX4_begin 39 = .ok (.ifCond .eq 43, 3) := by decide +kernel
theorem dX4_begin_42 : decode cX4_begin 42 = .ok (.iload 4, 2) := by decide +kernel
theorem dX4_begin_44 : decode cX4_begin 44 = .ok (.ifCond .eq 38, 3) := by decide +kernel
theorem dX4_begin_47 : decode cX4_begin 47 = .ok (.aload_n 0, 1) := by decide +kernel
theorem dX4_begin_48 : decode cX4_begin 48 = .ok (.getfield 7, 3) := by decide +kernel
theorem dX4_begin_51 : decode cX4_begin 51 = .ok (.iconst 3, 1) := by decide +kernel
theorem dX4_begin_52 : decode cX4_begin 52 = .ok (.iaload, 1) := by decide +kernel
theorem dX4_begin_53 : decode cX4_begin 53 = .ok (.bipush 8, 2) := by decide +kernel
theorem dX4_begin_55 : decode cX4_begin 55 = .ok (.if_icmp .ge 27, 3) := by decide +kernel
theorem dX4_begin_58 : decode cX4_begin 58 = .ok (.aload_n 0, 1) := by decide +kernel
theorem dX4_begin_59 : decode cX4_begin 59 = .ok (.getfield 7, 3) := by decide +kernel
theorem dX4_begin_62 : decode cX4_begin 62 = .ok (.iconst 0, 1) := by decide +kernel
theorem dX4_begin_63 : decode cX4_begin 63 = .ok (.iaload, 1) := by decide +kernel
theorem dX4_begin_64 : decode cX4_begin 64 = .ok (.iload_n 2, 1) := by decide +kernel
theorem dX4_begin_65 : decode cX4_begin 65 = .ok (.iconst 1, 1) := by decide +kernel
theorem dX4_begin_66 : decode cX4_begin 66 = .ok (.iload_n 1, 1) := by decide +kernel
theorem dX4_begin_67 : decode cX4_begin 67 = .ok (.ishl, 1) := by decide +kernel
theorem dX4_begin_68 : decode cX4_begin 68 = .ok (.ior, 1) := by decide +kernel
theorem dX4_begin_69 : decode cX4_begin 69 = .ok (.iand, 1) := by decide +kernel
theorem dX4_begin_70 : decode cX4_begin 70 = .ok (.iload_n 2, 1) := by decide +kernel
theorem dX4_begin_71 : decode cX4_begin 71 = .ok (.iconst 1, 1) := by decide +kernel
theorem dX4_begin_72 : decode cX4_begin 72 = .ok (.iload_n 1, 1) := by decide +kernel
theorem dX4_begin_73 : decode cX4_begin 73 = .ok (.ishl, 1) := by decide +kernel
theorem dX4_begin_74 : decode cX4_begin 74 = .ok (.ior, 1) := by decide +kernel
theorem dX4_begin_75 : decode cX4_begin 75 = .ok (.if_icmp .ne 7, 3) := by decide +kernel
theorem dX4_begin_78 : decode cX4_begin 78 = .ok (.iconst 1, 1) := by decide +kernel
theorem dX4_begin_79 : decode cX4_begin 79 = .ok (.goto 4, 3) := by decide +kernel
theorem dX4_begin_82 : decode cX4_begin 82 = .ok (.iconst 0, 1) := by decide +kernel
theorem dX4_begin_83 : decode cX4_begin 83 = .ok (.istore 5, 2) := by decide +kernel
theorem dX4_begin_85 : decode cX4_begin 85 = .ok (.aload_n 0, 1) := by decide +kernel
theorem dX4_begin_86 : decode cX4_begin 86 = .ok (.iload_n 1, 1) := by decide +kernel
theorem dX4_begin_87 : decode cX4_begin 87 = .ok (.invokestatic 86, 3) := by decide +kernel
theorem dX4_begin_90 : decode cX4_begin 90 = .ok (.ifCond .ne 7, 3) := by decide +kernel
theorem dX4_begin_93 : decode cX4_begin 93 = .ok (.iconst 1, 1) := by decide +kernel
theorem dX4_begin_94 : decode cX4_begin 94 = .ok (.goto 22, 3) := by decide +kernel
theorem dX4_begin_97 : decode cX4_begin 97 = .ok (.iload 4, 2) := by decide +kernel
theorem dX4_begin_99 : decode cX4_begin 99 = .ok (.ifCond .ne 7, 3) := by decide +kernel
theorem dX4_begin_102 : decode cX4_begin 102 = .ok (.iconst 2, 1) := by decide +kernel
theorem dX4_begin_103 : decode cX4_begin 103 = .ok (.goto 13, 3) := by decide +kernel
theorem dX4_begin_106 : decode cX4_begin 106 = .ok (.iload 5, 2) := by decide +kernel
theorem dX4_begin_108 : decode cX4_begin 108 = .ok (.ifCond .ne 7, 3) := by decide +kernel
theorem dX4_begin_111 : decode cX4_begin 111 = .ok (.iconst 3, 1) := by decide +kernel
theorem dX4_begin_112 : decode cX4_begin 112 = .ok (.goto 4, 3) := by decide +kernel
theorem dX4_begin_115 : decode cX4_begin 115 = .ok (.iconst 0, 1) := by decide +kernel
theorem dX4_begin_116 : decode cX4_begin 116 = .ok (.invokevirtual 90, 3) := by decide +kernel
theorem dX4_begin_119 : decode cX4_begin 119 = .ok (.ifCond .ne 5, 3) := by decide +kernel
theorem dX4_begin_122 : decode cX4_begin 122 = .ok (.iconst 0, 1) := by decide +kernel
theorem dX4_begin_123 : decode cX4_begin 123 = .ok (.ireturn, 1) := by decide +kernel
theorem dX4_begin_124 : decode cX4_begin 124 = .ok (.aload_n 0, 1) := by decide +kernel
theorem dX4_begin_125 : decode cX4_begin 125 = .ok (.invokevirtual 93, 3) := by decide +kernel
theorem dX4_begin_128 : decode cX4_begin 128 = .ok (.iconst 4, 1) := by decide +kernel
theorem dX4_begin_129 : decode cX4_begin 129 = .ok (.iconst 4, 1) := by decide +kernel
theorem dX4_begin_130 : decode cX4_begin 130 = .ok (.aload_n 0, 1) := by decide +kernel
theorem dX4_begin_131 : decode cX4_begin 131 = .ok (.getfield 7, 3) := by decide +kernel
theorem dX4_begin_134 : decode cX4_begin 134 = .ok (.iconst 3, 1) := by decide +kernel
theorem dX4_begin_135 : decode cX4_begin 135 = .ok (.iaload, 1) := by decide +kernel
theorem dX4_begin_136 : decode cX4_begin 136 = .ok (.imul, 1) := by decide +kernel
theorem dX4_begin_137 : decode cX4_begin 137 = .ok (.iadd, 1) := by decide +kernel
theorem dX4_begin_138 : decode cX4_begin 138 = .ok (.istore 6, 2) := by decide +kernel
theorem dX4_begin_140 : decode cX4_begin 140 = .ok (.aload_n 0, 1) := by decide +kernel
theorem dX4_begin_141 : decode cX4_begin 141 = .ok (.getfield 7, 3) := by decide +kernel
theorem dX4_begin_144 : decode cX4_begin 144 = .ok (.iload 6, 2) := by decide +kernel
theorem dX4_begin_146 : decode cX4_begin 146 = .ok (.iconst 0, 1) := by decide +kernel
theorem dX4_begin_147 : decode cX4_begin 147 = .ok (.iadd, 1) := by decide +kernel
theorem dX4_begin_148 : decode cX4_begin 148 = .ok (.iload_n 1, 1) := by decide +kernel
theorem dX4_begin_149 : decode cX4_begin 149 = .ok (.iastore, 1) := by decide +kernel
theorem dX4_begin_150 : decode cX4_begin 150 = .ok (.aload_n 0, 1) := by decide +kernel
theorem dX4_begin_151 : decode cX4_begin 151 = .ok (.getfield 7, 3) := by decide +kernel
theorem dX4_begin_154 : decode cX4_begin 154 = .ok (.iload 6, 2) := by decide +kernel
theorem dX4_begin_156 : decode cX4_begin 156 = .ok (.iconst 1, 1) := by decide +kernel
theorem dX4_begin_157 : decode cX4_begin 157 = .ok (.iadd, 1) := by decide +kernel
theorem dX4_begin_158 : decode cX4_begin 158 = .ok (.iload_n 2, 1) := by decide +kernel
theorem dX4_begin_159 : decode cX4_begin 159 = .ok (.iastore, 1) := by decide +kernel
theorem dX4_begin_160 : decode cX4_begin 160 = .ok (.aload_n 0, 1) := by decide +kernel
theorem dX4_begin_161 : decode cX4_begin 161 = .ok (.getfield 7, 3) := by decide +kernel
theorem dX4_begin_164 : decode cX4_begin 164 = .ok (.iload 6, 2) := by decide +kernel
theorem dX4_begin_166 : decode cX4_begin 166 = .ok (.iconst 2, 1) := by decide +kernel
theorem dX4_begin_167 : decode cX4_begin 167 = .ok (.iadd, 1) := by decide +kernel
theorem dX4_begin_168 : decode cX4_begin 168 = .ok (.iload_n 3, 1) := by decide +kernel
theorem dX4_begin_169 : decode cX4_begin 169 = .ok (.iastore, 1) := by decide +kernel
theorem dX4_begin_170 : decode cX4_begin 170 = .ok (.aload_n 0, 1) := by decide +kernel
theorem dX4_begin_171 : decode cX4_begin 171 = .ok (.getfield 7, 3) := by decide +kernel
theorem dX4_begin_174 : decode cX4_begin 174 = .ok (.iload 6, 2) := by decide +kernel
theorem dX4_begin_176 : decode cX4_begin 176 = .ok (.iconst 3, 1) := by decide +kernel
theorem dX4_begin_177 : decode cX4_begin 177 = .ok (.iadd, 1) := by decide +kernel
theorem dX4_begin_178 : decode cX4_begin 178 = .ok (.iconst 0, 1) := by decide +kernel
theorem dX4_begin_179 : decode cX4_begin 179 = .ok (.iastore, 1) := by decide +kernel
theorem dX4_begin_180 : decode cX4_begin 180 = .ok (.aload_n 0, 1) := by decide +kernel
theorem dX4_begin_181 : decode cX4_begin 181 = .ok (.getfield 7, 3) := by decide +kernel
theorem dX4_begin_184 : decode cX4_begin 184 = .ok (.iconst 3, 1) := by decide +kernel
theorem dX4_begin_185 : decode cX4_begin 185 = .ok (.dup2, 1) := by decide +kernel
theorem dX4_begin_186 : decode cX4_begin 186 = .ok (.iaload, 1) := by decide +kernel
theorem dX4_begin_187 : decode cX4_begin 187 = .ok (.iconst 1, 1) := by decide +kernel
theorem dX4_begin_188 : decode cX4_begin 188 = .ok (.iadd, 1) := by decide +kernel
theorem dX4_begin_189 : decode cX4_begin 189 = .ok (.iastore, 1) := by decide +kernel
theorem dX4_begin_190 : decode cX4_begin 190 = .ok (.aload_n 0, 1) := by decide +kernel
theorem dX4_begin_191 : decode cX4_begin 191 = .ok (.getfield 7, 3) := by decide +kernel
theorem dX4_begin_194 : decode cX4_begin 194 = .ok (.iconst 3, 1) := by decide +kernel
theorem dX4_begin_195 : decode cX4_begin 195 = .ok (.iaload, 1) := by decide +kernel
theorem dX4_begin_196 : decode cX4_begin 196 = .ok (.iconst 1, 1) := by decide +kernel
theorem dX4_begin_197 : decode cX4_begin 197 = .ok (.isub, 1) := by decide +kernel
theorem dX4_begin_198 : decode cX4_begin 198 = .ok (.ireturn, 1) := by decide +kernel
theorem dX4_vote_0 : decode cX4_vote 0 = .ok (.aload_n 0, 1) := by decide +kernel
theorem dX4_vote_1 : decode cX4_vote 1 = .ok (.iload_n 1, 1) := by decide +kernel
theorem dX4_vote_2 : decode cX4_vote 2 = .ok (.invokevirtual 96, 3) := by decide +kernel
theorem dX4_vote_5 : decode cX4_vote 5 = .ok (.ifCond .eq 14, 3) := by decide +kernel
theorem dX4_vote_8 : decode cX4_vote 8 = .ok (.iload_n 2, 1) := by decide +kernel
theorem dX4_vote_9 : decode cX4_vote 9 = .ok (.invokestatic 86, 3) := by decide +kernel
theorem dX4_vote_12 : decode cX4_vote 12 = .ok (.ifCond .eq 7, 3) := by decide +kernel
theorem dX4_vote_15 : decode cX4_vote 15 = .ok (.iconst 1, 1) := by decide +kernel
theorem dX4_vote_16 : decode cX4_vote 16 = .ok (.goto 4, 3) := by decide +kernel
theorem dX4_vote_19 : decode cX4_vote 19 = .ok (.iconst 0, 1) := by decide +kernel
theorem dX4_vote_20 : decode cX4_vote 20 = .ok (.istore 4, 2) := by decide +kernel
theorem dX4_vote_22 : decode cX4_vote 22 = .ok (.aload_n 0, 1) := by decide +kernel
theorem dX4_vote_23 : decode cX4_vote 23 = .ok (.iload 4, 2) := by decide +kernel
theorem dX4_vote_25 : decode cX4_vote 25 = .ok (.ifCond .ne 7, 3) := by decide +kernel
theorem dX4_vote_28 : decode cX4_vote 28 = .ok (.iconst 1, 1) := by decide +kernel
theorem dX4_vote_29 : decode cX4_vote 29 = .ok (.goto 17, 3) := by decide +kernel
theorem dX4_vote_32 : decode cX4_vote 32 = .ok (.aload_n 0, 1) := by decide +kernel
theorem dX4_vote_33 : decode cX4_vote 33 = .ok (.iload_n 1, 1) := by decide +kernel
theorem dX4_vote_34 : decode cX4_vote 34 = .ok (.iload_n 2, 1) := by decide +kernel
theorem dX4_vote_35 : decode cX4_vote 35 = .ok (.invokevirtual 99, 3) := by decide +kernel
theorem dX4_vote_38 : decode cX4_vote 38 = .ok (.ifCond .ne 7, 3) := by decide +kernel
theorem dX4_vote_41 : decode cX4_vote 41 = .ok (.iconst 2, 1) := by decide +kernel
theorem dX4_vote_42 : decode cX4_vote 42 = .ok (.goto 4, 3) := by decide +kernel
theorem dX4_vote_45 : decode cX4_vote 45 = .ok (.iconst 0, 1) := by decide +kernel
theorem dX4_vote_46 : decode cX4_vote 46 = .ok (.invokevirtual 90, 3) := by decide +kernel
theorem dX4_vote_49 : decode cX4_vote 49 = .ok (.ifCond .ne 5, 3) := by decide +kernel
theorem dX4_vote_52 : decode cX4_vote 52 = .ok (.iconst 0, 1) := by decide +kernel
theorem dX4_vote_53 : decode cX4_vote 53 = .ok (.ireturn, 1) := by decide +kernel
theorem dX4_vote_54 : decode cX4_vote 54 = .ok (.aload_n 0, 1) := by decide +kernel
theorem dX4_vote_55 : decode cX4_vote 55 = .ok (.invokevirtual 93, 3) := by decide +kernel
theorem dX4_vote_58 : decode cX4_vote 58 = .ok (.aload_n 0, 1) := by decide +kernel
theorem dX4_vote_59 : decode cX4_vote 59 = .ok (.iload_n 1, 1) := by decide +kernel
theorem dX4_vote_60 : decode cX4_vote 60 = .ok (.iload_n 2, 1) := by decide +kernel
theorem dX4_vote_61 : decode cX4_vote 61 = .ok (.iload_n 3, 1) := by decide +kernel
theorem dX4_vote_62 : decode cX4_vote 62 = .ok (.invokevirtual 102, 3) := by decide +kernel
theorem dX4_vote_65 : decode cX4_vote 65 = .ok (.aload_n 0, 1) := by decide +kernel
theorem dX4_vote_66 : decode cX4_vote 66 = .ok (.iconst 0, 1) := by decide +kernel
theorem dX4_vote_67 : decode cX4_vote 67 = .ok (.iload_n 1, 1) := by decide +kernel
theorem dX4_vote_68 : decode cX4_vote 68 = .ok (.iload_n 2, 1) := by decide +kernel
theorem dX4_vote_69 : decode cX4_vote 69 = .ok (.invokevirtual 35, 3) := by decide +kernel
theorem dX4_vote_72 : decode cX4_vote 72 = .ok (.ireturn, 1) := by decide +kernel
theorem dX4_decide_0 : decode cX4_decide 0 = .ok (.aload_n 0, 1) := by decide +kernel
theorem dX4_decide_1 : decode cX4_decide 1 = .ok (.iload_n 1, 1) := by decide +kernel
theorem dX4_decide_2 : decode cX4_decide 2 = .ok (.invokevirtual 96, 3) := by decide +kernel
theorem dX4_decide_5 : decode cX4_decide 5 = .ok (.istore_n 2, 1) := by decide +kernel
theorem dX4_decide_6 : decode cX4_decide 6 = .ok (.aload_n 0, 1) := by decide +kernel
theorem dX4_decide_7 : decode cX4_decide 7 = .ok (.iload_n 2, 1) := by decide +kernel
theorem dX4_decide_8 : decode cX4_decide 8 = .ok (.ifCond .ne 7, 3) := by decide +kernel
theorem dX4_decide_11 : decode cX4_decide 11 = .ok (.iconst 1, 1) := by decide +kernel
theorem dX4_decide_12 : decode cX4_decide 12 = .ok (.goto 16, 3) := by decide +kernel
theorem dX4_decide_15 : decode cX4_decide 15 = .ok (.aload_n 0, 1) := by decide +kernel
theorem dX4_decide_16 : decode cX4_decide 16 = .ok (.iload_n 1, 1) := by decide +kernel
theorem dX4_decide_17 : decode cX4_decide 17 = .ok (.invokevirtual 106, 3) := by decide +kernel
theorem dX4_decide_20 : decode cX4_decide 20 = .ok (.ifCond .ne 7, 3) := by decide +kernel
theorem dX4_decide_23 : decode cX4_decide 23 = .ok (.iconst 2, 1) := by decide +kernel
theorem dX4_decide_24 : decode cX4_decide 24 = .ok (.goto 4, 3) := by decide +kernel
theorem dX4_decide_27 : decode cX4_decide 27 = .ok (.iconst 0, 1) := by decide +kernel
theorem dX4_decide_28 : decode cX4_decide 28 = .ok (.invokevirtual 90, 3) := by decide +kernel
theorem dX4_decide_31 : decode cX4_decide 31 = .ok (.ifCond .ne 5, 3) := by decide +kernel
theorem dX4_decide_34 : decode cX4_decide 34 = .ok (.iconst 0, 1) := by decide +kernel
theorem dX4_decide_35 : decode cX4_decide 35 = .ok (.ireturn, 1) := by decide +kernel
theorem dX4_decide_36 : decode cX4_decide 36 = .ok (.aload_n 0, 1) := by decide +kernel
theorem dX4_decide_37 : decode cX4_decide 37 = .ok (.invokevirtual 93, 3) := by decide +kernel
theorem dX4_decide_40 : decode cX4_decide 40 = .ok (.aload_n 0, 1) := by decide +kernel
theorem dX4_decide_41 : decode cX4_decide 41 = .ok (.iconst 0, 1) := by decide +kernel
theorem dX4_decide_42 : decode cX4_decide 42 = .ok (.iload_n 1, 1) := by decide +kernel
theorem dX4_decide_43 : decode cX4_decide 43 = .ok (.aload_n 0, 1) := by decide +kernel
theorem dX4_decide_44 : decode cX4_decide 44 = .ok (.iload_n 1, 1) := by decide +kernel
theorem dX4_decide_45 : decode cX4_decide 45 = .ok (.invokevirtual 109, 3) := by decide +kernel
theorem dX4_decide_48 : decode cX4_decide 48 = .ok (.invokevirtual 49, 3) := by decide +kernel
theorem dX4_decide_51 : decode cX4_decide 51 = .ok (.aload_n 0, 1) := by decide +kernel
theorem dX4_decide_52 : decode cX4_decide 52 = .ok (.iconst 0, 1) := by decide +kernel
theorem dX4_decide_53 : decode cX4_decide 53 = .ok (.iload_n 1, 1) := by decide +kernel
theorem dX4_decide_54 : decode cX4_decide 54 = .ok (.iconst 3, 1) := by decide +kernel
theorem dX4_decide_55 : decode cX4_decide 55 = .ok (.invokevirtual 24, 3) := by decide +kernel
theorem dX4_decide_58 : decode cX4_decide 58 = .ok (.ireturn, 1) := by decide +kernel
theorem dX4_tell_0 : decode cX4_tell 0 = .ok (.aload_n 0, 1) := by decide +kernel
theorem dX4_tell_1 : decode cX4_tell 1 = .ok (.iload_n 1, 1) := by decide +kernel
theorem dX4_tell_2 : decode cX4_tell 2 = .ok (.invokevirtual 96, 3) := by decide +kernel
theorem dX4_tell_5 : decode cX4_tell 5 = .ok (.ifCond .eq 14, 3) := by decide +kernel
theorem dX4_tell_8 : decode cX4_tell 8 = .ok (.iload_n 2, 1) := by decide +kernel
theorem dX4_tell_9 : decode cX4_tell 9 = .ok (.invokestatic 86, 3) := by decide +kernel
theorem dX4_tell_12 : decode cX4_tell 12 = .ok (.ifCond .eq 7, 3) := by decide +kernel
theorem dX4_tell_15 : decode cX4_tell 15 = .ok (.iconst 1, 1) := by decide +kernel
theorem dX4_tell_16 : decode cX4_tell 16 = .ok (.goto 4, 3) := by decide +kernel
theorem dX4_tell_19 : decode cX4_tell 19 = .ok (.iconst 0, 1) := by decide +kernel
theorem dX4_tell_20 : decode cX4_tell 20 = .ok (.istore_n 3, 1) := by decide +kernel
theorem dX4_tell_21 : decode cX4_tell 21 = .ok (.aload_n 0, 1) := by decide +kernel
theorem dX4_tell_22 : decode cX4_tell 22 = .ok (.iload_n 3, 1) := by decide +kernel
theorem dX4_tell_23 : decode cX4_tell 23 = .ok (.ifCond .ne 7, 3) := by decide +kernel
theorem dX4_tell_26 : decode cX4_tell 26 = .ok (.iconst 1, 1) := by decide +kernel
theorem dX4_tell_27 : decode cX4_tell 27 = .ok (.goto 17, 3) := by decide +kernel
theorem dX4_tell_30 : decode cX4_tell 30 = .ok (.aload_n 0, 1) := by decide +kernel
theorem dX4_tell_31 : decode cX4_tell 31 = .ok (.iload_n 1, 1) := by decide +kernel
theorem dX4_tell_32 : decode cX4_tell 32 = .ok (.iload_n 2, 1) := by decide +kernel
theorem dX4_tell_33 : decode cX4_tell 33 = .ok (.invokevirtual 112, 3) := by decide +kernel
theorem dX4_tell_36 : decode cX4_tell 36 = .ok (.ifCond .ne 7, 3) := by decide +kernel
theorem dX4_tell_39 : decode cX4_tell 39 = .ok (.iconst 2, 1) := by decide +kernel
theorem dX4_tell_40 : decode cX4_tell 40 = .ok (.goto 4, 3) := by decide +kernel
theorem dX4_tell_43 : decode cX4_tell 43 = .ok (.iconst 0, 1) := by decide +kernel
theorem dX4_tell_44 : decode cX4_tell 44 = .ok (.invokevirtual 90, 3) := by decide +kernel
theorem dX4_tell_47 : decode cX4_tell 47 = .ok (.ifCond .ne 5, 3) := by decide +kernel
theorem dX4_tell_50 : decode cX4_tell 50 = .ok (.iconst 0, 1) := by decide +kernel
theorem dX4_tell_51 : decode cX4_tell 51 = .ok (.ireturn, 1) := by decide +kernel
theorem dX4_tell_52 : decode cX4_tell 52 = .ok (.aload_n 0, 1) := by decide +kernel
theorem dX4_tell_53 : decode cX4_tell 53 = .ok (.invokevirtual 93, 3) := by decide +kernel
theorem dX4_tell_56 : decode cX4_tell 56 = .ok (.aload_n 0, 1) := by decide +kernel
theorem dX4_tell_57 : decode cX4_tell 57 = .ok (.iconst 0, 1) := by decide +kernel
theorem dX4_tell_58 : decode cX4_tell 58 = .ok (.iload_n 1, 1) := by decide +kernel
theorem dX4_tell_59 : decode cX4_tell 59 = .ok (.iload_n 2, 1) := by decide +kernel
theorem dX4_tell_60 : decode cX4_tell 60 = .ok (.invokevirtual 52, 3) := by decide +kernel
theorem dX4_tell_63 : decode cX4_tell 63 = .ok (.aload_n 0, 1) := by decide +kernel
theorem dX4_tell_64 : decode cX4_tell 64 = .ok (.iconst 0, 1) := by decide +kernel
theorem dX4_tell_65 : decode cX4_tell 65 = .ok (.iload_n 1, 1) := by decide +kernel
theorem dX4_tell_66 : decode cX4_tell 66 = .ok (.iload_n 2, 1) := by decide +kernel
theorem dX4_tell_67 : decode cX4_tell 67 = .ok (.invokevirtual 35, 3) := by decide +kernel
theorem dX4_tell_70 : decode cX4_tell 70 = .ok (.ireturn, 1) := by decide +kernel
theorem dX4_ask_0 : decode cX4_ask 0 = .ok (.aload_n 0, 1) := by decide +kernel
theorem dX4_ask_1 : decode cX4_ask 1 = .ok (.iload_n 1, 1) := by decide +kernel
theorem dX4_ask_2 : decode cX4_ask 2 = .ok (.invokevirtual 96, 3) := by decide +kernel
theorem dX4_ask_5 : decode cX4_ask 5 = .ok (.ifCond .eq 21, 3) := by decide +kernel
theorem dX4_ask_8 : decode cX4_ask 8 = .ok (.iload_n 2, 1) := by decide +kernel
theorem dX4_ask_9 : decode cX4_ask 9 = .ok (.invokestatic 86, 3) := by decide +kernel
theorem dX4_ask_12 : decode cX4_ask 12 = .ok (.ifCond .eq 14, 3) := by decide +kernel
theorem dX4_ask_15 : decode cX4_ask 15 = .ok (.iload_n 3, 1) := by decide +kernel
theorem dX4_ask_16 : decode cX4_ask 16 = .ok (.invokestatic 86, 3) := by decide +kernel
theorem dX4_ask_19 : decode cX4_ask 19 = .ok (.ifCond .eq 7, 3) := by decide +kernel
theorem dX4_ask_22 : decode cX4_ask 22 = .ok (.iconst 1, 1) := by decide +kernel
theorem dX4_ask_23 : decode cX4_ask 23 = .ok (.goto 4, 3) := by decide +kernel
theorem dX4_ask_26 : decode cX4_ask 26 = .ok (.iconst 0, 1) := by decide +kernel
theorem dX4_ask_27 : decode cX4_ask 27 = .ok (.istore 4, 2) := by decide +kernel
theorem dX4_ask_29 : decode cX4_ask 29 = .ok (.aload_n 0, 1) := by decide +kernel
theorem dX4_ask_30 : decode cX4_ask 30 = .ok (.iload 4, 2) := by decide +kernel
theorem dX4_ask_32 : decode cX4_ask 32 = .ok (.ifCond .ne 7, 3) := by decide +kernel
theorem dX4_ask_35 : decode cX4_ask 35 = .ok (.iconst 1, 1) := by decide +kernel
theorem dX4_ask_36 : decode cX4_ask 36 = .ok (.goto 27, 3) := by decide +kernel
theorem dX4_ask_39 : decode cX4_ask 39 = .ok (.iload_n 2, 1) := by decide +kernel
theorem dX4_ask_40 : decode cX4_ask 40 = .ok (.iload_n 3, 1) := by decide +kernel
theorem dX4_ask_41 : decode cX4_ask 41 = .ok (.if_icmp .ne 7, 3) := by decide +kernel
theorem dX4_ask_44 : decode cX4_ask 44 = .ok (.iconst 2, 1) := by decide +kernel
theorem dX4_ask_45 : decode cX4_ask 45 = .ok (.goto 18, 3) := by decide +kernel
theorem dX4_ask_48 : decode cX4_ask 48 = .ok (.aload_n 0, 1) := by decide +kernel
theorem dX4_ask_49 : decode cX4_ask 49 = .ok (.iload_n 1, 1) := by decide +kernel
theorem dX4_ask_50 : decode cX4_ask 50 = .ok (.iload_n 2, 1) := by decide +kernel
theorem dX4_ask_51 : decode cX4_ask 51 = .ok (.iload_n 3, 1) := by decide +kernel
theorem dX4_ask_52 : decode cX4_ask 52 = .ok (.invokevirtual 115, 3) := by decide +kernel
theorem dX4_ask_55 : decode cX4_ask 55 = .ok (.ifCond .ne 7, 3) := by decide +kernel
theorem dX4_ask_58 : decode cX4_ask 58 = .ok (.iconst 3, 1) := by decide +kernel
theorem dX4_ask_59 : decode cX4_ask 59 = .ok (.goto 4, 3) := by decide +kernel
theorem dX4_ask_62 : decode cX4_ask 62 = .ok (.iconst 0, 1) := by decide +kernel
theorem dX4_ask_63 : decode cX4_ask 63 = .ok (.invokevirtual 90, 3) := by decide +kernel
theorem dX4_ask_66 : decode cX4_ask 66 = .ok (.ifCond .ne 5, 3) := by decide +kernel
theorem dX4_ask_69 : decode cX4_ask 69 = .ok (.iconst 0, 1) := by decide +kernel
theorem dX4_ask_70 : decode cX4_ask 70 = .ok (.ireturn, 1) := by decide +kernel
theorem dX4_ask_71 : decode cX4_ask 71 = .ok (.aload_n 0, 1) := by decide +kernel
theorem dX4_ask_72 : decode cX4_ask 72 = .ok (.invokevirtual 93, 3) := by decide +kernel
theorem dX4_ask_75 : decode cX4_ask 75 = .ok (.aload_n 0, 1) := by decide +kernel
theorem dX4_ask_76 : decode cX4_ask 76 = .ok (.iconst 0, 1) := by decide +kernel
theorem dX4_ask_77 : decode cX4_ask 77 = .ok (.iload_n 1, 1) := by decide +kernel
theorem dX4_ask_78 : decode cX4_ask 78 = .ok (.iload_n 2, 1) := by decide +kernel
theorem dX4_ask_79 : decode cX4_ask 79 = .ok (.iload_n 3, 1) := by decide +kernel
theorem dX4_ask_80 : decode cX4_ask 80 = .ok (.invokevirtual 62, 3) := by decide +kernel
theorem dX4_ask_83 : decode cX4_ask 83 = .ok (.aload_n 0, 1) := by decide +kernel
theorem dX4_ask_84 : decode cX4_ask 84 = .ok (.iconst 0, 1) := by decide +kernel
theorem dX4_ask_85 : decode cX4_ask 85 = .ok (.iload_n 1, 1) := by decide +kernel
theorem dX4_ask_86 : decode cX4_ask 86 = .ok (.iload_n 2, 1) := by decide +kernel
theorem dX4_ask_87 : decode cX4_ask 87 = .ok (.invokevirtual 35, 3) := by decide +kernel
theorem dX4_ask_90 : decode cX4_ask 90 = .ok (.ireturn, 1) := by decide +kernel
theorem dX4_fallSilent_0 : decode cX4_fallSilent 0 = .ok (.iload_n 1, 1) := by decide +kernel
theorem dX4_fallSilent_1 : decode cX4_fallSilent 1 = .ok (.invokestatic 86, 3) := by decide +kernel
theorem dX4_fallSilent_4 : decode cX4_fallSilent 4 = .ok (.istore_n 2, 1) := by decide +kernel
theorem dX4_fallSilent_5 : decode cX4_fallSilent 5 = .ok (.aload_n 0, 1) := by decide +kernel
theorem dX4_fallSilent_6 : decode cX4_fallSilent 6 = .ok (.iload_n 2, 1) := by decide +kernel
theorem dX4_fallSilent_7 : decode cX4_fallSilent 7 = .ok (.ifCond .ne 7, 3) := by decide +kernel
theorem dX4_fallSilent_10 : decode cX4_fallSilent 10 = .ok (.iconst 1, 1) := by decide +kernel
theorem dX4_fallSilent_11 : decode cX4_fallSilent 11 = .ok (.goto 17, 3) := by decide +kernel
theorem dX4_fallSilent_14 : decode cX4_fallSilent 14 = .ok (.aload_n 0, 1) := by decide +kernel
theorem dX4_fallSilent_15 : decode cX4_fallSilent 15 = .ok (.iconst 0, 1) := by decide +kernel
theorem dX4_fallSilent_16 : decode cX4_fallSilent 16 = .ok (.iload_n 1, 1) := by decide +kernel
theorem dX4_fallSilent_17 : decode cX4_fallSilent 17 = .ok (.invokevirtual 58, 3) := by decide +kernel
theorem dX4_fallSilent_20 : decode cX4_fallSilent 20 = .ok (.ifCond .ne 7, 3) := by decide +kernel
theorem dX4_fallSilent_23 : decode cX4_fallSilent 23 = .ok (.iconst 2, 1) := by decide +kernel
theorem dX4_fallSilent_24 : decode cX4_fallSilent 24 = .ok (.goto 4, 3) := by decide +kernel
theorem dX4_fallSilent_27 : decode cX4_fallSilent 27 = .ok (.iconst 0, 1) := by decide +kernel
theorem dX4_fallSilent_28 : decode cX4_fallSilent 28 = .ok (.invokevirtual 90, 3) := by decide +kernel
theorem dX4_fallSilent_31 : decode cX4_fallSilent 31 = .ok (.ifCond .ne 5, 3) := by decide +kernel
theorem dX4_fallSilent_34 : decode cX4_fallSilent 34 = .ok (.iconst 0, 1) := by decide +kernel
theorem dX4_fallSilent_35 : decode cX4_fallSilent 35 = .ok (.ireturn, 1) := by decide +kernel
theorem dX4_fallSilent_36 : decode cX4_fallSilent 36 = .ok (.aload_n 0, 1) := by decide +kernel
theorem dX4_fallSilent_37 : decode cX4_fallSilent 37 = .ok (.invokevirtual 93, 3) := by decide +kernel
theorem dX4_fallSilent_40 : decode cX4_fallSilent 40 = .ok (.aload_n 0, 1) := by decide +kernel
theorem dX4_fallSilent_41 : decode cX4_fallSilent 41 = .ok (.getfield 7, 3) := by decide +kernel
theorem dX4_fallSilent_44 : decode cX4_fallSilent 44 = .ok (.iconst 0, 1) := by decide +kernel
theorem dX4_fallSilent_45 : decode cX4_fallSilent 45 = .ok (.dup2, 1) := by decide +kernel
theorem dX4_fallSilent_46 : decode cX4_fallSilent 46 = .ok (.iaload, 1) := by decide +kernel
theorem dX4_fallSilent_47 : decode cX4_fallSilent 47 = .ok (.iconst 1, 1) := by decide +kernel
theorem dX4_fallSilent_48 : decode cX4_fallSilent 48 = .ok (.iload_n 1, 1) := by decide +kernel
theorem dX4_fallSilent_49 : decode cX4_fallSilent 49 = .ok (.ishl, 1) := by decide +kernel
theorem dX4_fallSilent_50 : decode cX4_fallSilent 50 = .ok (.iconst (-1), 1) := by decide +kernel
theorem dX4_fallSilent_51 : decode cX4_fallSilent 51 = .ok (.ixor, 1) := by decide +kernel
theorem dX4_fallSilent_52 : decode cX4_fallSilent 52 = .ok (.iand, 1) := by decide +kernel
theorem dX4_fallSilent_53 : decode cX4_fallSilent 53 = .ok (.iastore, 1) := by decide +kernel
theorem dX4_fallSilent_54 : decode cX4_fallSilent 54 = .ok (.aload_n 0, 1) := by decide +kernel
theorem dX4_fallSilent_55 : decode cX4_fallSilent 55 = .ok (.iload_n 1, 1) := by decide +kernel
theorem dX4_fallSilent_56 : decode cX4_fallSilent 56 = .ok (.invokevirtual 118, 3) := by decide +kernel
theorem dX4_fallSilent_59 : decode cX4_fallSilent 59 = .ok (.ireturn, 1) := by decide +kernel
theorem dX4_comeBack_0 : decode cX4_comeBack 0 = .ok (.iload_n 1, 1) := by decide +kernel
theorem dX4_comeBack_1 : decode cX4_comeBack 1 = .ok (.invokestatic 86, 3) := by decide +kernel
theorem dX4_comeBack_4 : decode cX4_comeBack 4 = .ok (.istore_n 2, 1) := by decide +kernel
theorem dX4_comeBack_5 : decode cX4_comeBack 5 = .ok (.aload_n 0, 1) := by decide +kernel
theorem dX4_comeBack_6 : decode cX4_comeBack 6 = .ok (.iload_n 2, 1) := by decide +kernel
theorem dX4_comeBack_7 : decode cX4_comeBack 7 = .ok (.ifCond .ne 7, 3) := by decide +kernel
theorem dX4_comeBack_10 : decode cX4_comeBack 10 = .ok (.iconst 1, 1) := by decide +kernel
theorem dX4_comeBack_11 : decode cX4_comeBack 11 = .ok (.goto 17, 3) := by decide +kernel
theorem dX4_comeBack_14 : decode cX4_comeBack 14 = .ok (.aload_n 0, 1) := by decide +kernel
theorem dX4_comeBack_15 : decode cX4_comeBack 15 = .ok (.iconst 0, 1) := by decide +kernel
theorem dX4_comeBack_16 : decode cX4_comeBack 16 = .ok (.iload_n 1, 1) := by decide +kernel
theorem dX4_comeBack_17 : decode cX4_comeBack 17 = .ok (.invokevirtual 58, 3) := by decide +kernel
theorem dX4_comeBack_20 : decode cX4_comeBack 20 = .ok (.ifCond .eq 7, 3) := by decide +kernel
theorem dX4_comeBack_23 : decode cX4_comeBack 23 = .ok (.iconst 2, 1) := by decide +kernel
theorem dX4_comeBack_24 : decode cX4_comeBack 24 = .ok (.goto 4, 3) := by decide +kernel
theorem dX4_comeBack_27 : decode cX4_comeBack 27 = .ok (.iconst 0, 1) := by decide +kernel
theorem dX4_comeBack_28 : decode cX4_comeBack 28 = .ok (.invokevirtual 90, 3) := by decide +kernel
theorem dX4_comeBack_31 : decode cX4_comeBack 31 = .ok (.ifCond .ne 5, 3) := by decide +kernel
theorem dX4_comeBack_34 : decode cX4_comeBack 34 = .ok (.iconst 0, 1) := by decide +kernel
theorem dX4_comeBack_35 : decode cX4_comeBack 35 = .ok (.ireturn, 1) := by decide +kernel
theorem dX4_comeBack_36 : decode cX4_comeBack 36 = .ok (.aload_n 0, 1) := by decide +kernel
theorem dX4_comeBack_37 : decode cX4_comeBack 37 = .ok (.invokevirtual 93, 3) := by decide +kernel
theorem dX4_comeBack_40 : decode cX4_comeBack 40 = .ok (.aload_n 0, 1) := by decide +kernel
theorem dX4_comeBack_41 : decode cX4_comeBack 41 = .ok (.iload_n 1, 1) := by decide +kernel
theorem dX4_comeBack_42 : decode cX4_comeBack 42 = .ok (.invokevirtual 121, 3) := by decide +kernel
theorem dX4_comeBack_45 : decode cX4_comeBack 45 = .ok (.ireturn, 1) := by decide +kernel
theorem dX4_pass_0 : decode cX4_pass 0 = .ok (.aload_n 0, 1) := by decide +kernel
theorem dX4_pass_1 : decode cX4_pass 1 = .ok (.iload_n 1, 1) := by decide +kernel
theorem dX4_pass_2 : decode cX4_pass 2 = .ok (.iconst 1, 1) := by decide +kernel
theorem dX4_pass_3 : decode cX4_pass 3 = .ok (.bipush 20, 2) := by decide +kernel
theorem dX4_pass_5 : decode cX4_pass 5 = .ok (.invokestatic 20, 3) := by decide +kernel
theorem dX4_pass_8 : decode cX4_pass 8 = .ok (.ifCond .eq 7, 3) := by decide +kernel
theorem dX4_pass_11 : decode cX4_pass 11 = .ok (.iconst 0, 1) := by decide +kernel
theorem dX4_pass_12 : decode cX4_pass 12 = .ok (.goto 4, 3) := by decide +kernel
theorem dX4_pass_15 : decode cX4_pass 15 = .ok (.iconst 1, 1) := by decide +kernel
theorem dX4_pass_16 : decode cX4_pass 16 = .ok (.invokevirtual 90, 3) := by decide +kernel
theorem dX4_pass_19 : decode cX4_pass 19 = .ok (.ifCond .ne 5, 3) := by decide +kernel
theorem dX4_pass_22 : decode cX4_pass 22 = .ok (.iconst 0, 1) := by decide +kernel
theorem dX4_pass_23 : decode cX4_pass 23 = .ok (.ireturn, 1) := by decide +kernel
theorem dX4_pass_24 : decode cX4_pass 24 = .ok (.aload_n 0, 1) := by decide +kernel
theorem dX4_pass_25 : decode cX4_pass 25 = .ok (.invokevirtual 93, 3) := by decide +kernel
theorem dX4_pass_28 : decode cX4_pass 28 = .ok (.aload_n 0, 1) := by decide +kernel
theorem dX4_pass_29 : decode cX4_pass 29 = .ok (.iload_n 1, 1) := by decide +kernel
theorem dX4_pass_30 : decode cX4_pass 30 = .ok (.invokevirtual 124, 3) := by decide +kernel
theorem dX4_pass_33 : decode cX4_pass 33 = .ok (.ireturn, 1) := by decide +kernel
theorem dX4_setPatience_0 : decode cX4_setPatience 0 = .ok (.aload_n 0, 1) := by decide +kernel
theorem dX4_setPatience_1 : decode cX4_setPatience 1 = .ok (.iload_n 1, 1) := by decide +kernel
theorem dX4_setPatience_2 : decode cX4_setPatience 2 = .ok (.iconst 1, 1) := by decide +kernel
theorem dX4_setPatience_3 : decode cX4_setPatience 3 = .ok (.bipush 20, 2) := by decide +kernel
theorem dX4_setPatience_5 : decode cX4_setPatience 5 = .ok (.invokestatic 20, 3) := by decide +kernel
theorem dX4_setPatience_8 : decode cX4_setPatience 8 = .ok (.ifCond .eq 7, 3) := by decide +kernel
theorem dX4_setPatience_11 : decode cX4_setPatience 11 = .ok (.iconst 0, 1) := by decide +kernel
theorem dX4_setPatience_12 : decode cX4_setPatience 12 = .ok (.goto 4, 3) := by decide +kernel
theorem dX4_setPatience_15 : decode cX4_setPatience 15 = .ok (.iconst 1, 1) := by decide +kernel
theorem dX4_setPatience_16 : decode cX4_setPatience 16 = .ok (.invokevirtual 90, 3) := by decide +kernel
theorem dX4_setPatience_19 : decode cX4_setPatience 19 = .ok (.ifCond .ne 5, 3) := by decide +kernel
theorem dX4_setPatience_22 : decode cX4_setPatience 22 = .ok (.iconst 0, 1) := by decide +kernel
theorem dX4_setPatience_23 : decode cX4_setPatience 23 = .ok (.ireturn, 1) := by decide +kernel
theorem dX4_setPatience_24 : decode cX4_setPatience 24 = .ok (.aload_n 0, 1) := by decide +kernel
theorem dX4_setPatience_25 : decode cX4_setPatience 25 = .ok (.invokevirtual 93, 3) := by decide +kernel
theorem dX4_setPatience_28 : decode cX4_setPatience 28 = .ok (.aload_n 0, 1) := by decide +kernel
theorem dX4_setPatience_29 : decode cX4_setPatience 29 = .ok (.getfield 7, 3) := by decide +kernel
theorem dX4_setPatience_32 : decode cX4_setPatience 32 = .ok (.iconst 2, 1) := by decide +kernel
theorem dX4_setPatience_33 : decode cX4_setPatience 33 = .ok (.iaload, 1) := by decide +kernel
theorem dX4_setPatience_34 : decode cX4_setPatience 34 = .ok (.istore_n 2, 1) := by decide +kernel
theorem dX4_setPatience_35 : decode cX4_setPatience 35 = .ok (.aload_n 0, 1) := by decide +kernel
theorem dX4_setPatience_36 : decode cX4_setPatience 36 = .ok (.getfield 7, 3) := by decide +kernel
theorem dX4_setPatience_39 : decode cX4_setPatience 39 = .ok (.iconst 2, 1) := by decide +kernel
theorem dX4_setPatience_40 : decode cX4_setPatience 40 = .ok (.iload_n 1, 1) := by decide +kernel
theorem dX4_setPatience_41 : decode cX4_setPatience 41 = .ok (.iastore, 1) := by decide +kernel
theorem dX4_setPatience_42 : decode cX4_setPatience 42 = .ok (.iload_n 2, 1) := by decide +kernel
theorem dX4_setPatience_43 : decode cX4_setPatience 43 = .ok (.ireturn, 1) := by decide +kernel
theorem dX4_deals_0 : decode cX4_deals 0 = .ok (.aload_n 0, 1) := by decide +kernel
theorem dX4_deals_1 : decode cX4_deals 1 = .ok (.iconst 0, 1) := by decide +kernel
theorem dX4_deals_2 : decode cX4_deals 2 = .ok (.putfield 16, 3) := by decide +kernel
theorem dX4_deals_5 : decode cX4_deals 5 = .ok (.aload_n 0, 1) := by decide +kernel
theorem dX4_deals_6 : decode cX4_deals 6 = .ok (.getfield 7, 3) := by decide +kernel
theorem dX4_deals_9 : decode cX4_deals 9 = .ok (.iconst 3, 1) := by decide +kernel
theorem dX4_deals_10 : decode cX4_deals 10 = .ok (.iaload, 1) := by decide +kernel
theorem dX4_deals_11 : decode cX4_deals 11 = .ok (.ireturn, 1) := by decide +kernel
theorem dX4_isUp_0 : decode cX4_isUp 0 = .ok (.aload_n 0, 1) := by decide +kernel
theorem dX4_isUp_1 : decode cX4_isUp 1 = .ok (.iload_n 1, 1) := by decide +kernel
theorem dX4_isUp_2 : decode cX4_isUp 2 = .ok (.invokestatic 86, 3) := by decide +kernel
theorem dX4_isUp_5 : decode cX4_isUp 5 = .ok (.ifCond .eq 7, 3) := by decide +kernel
theorem dX4_isUp_8 : decode cX4_isUp 8 = .ok (.iconst 0, 1) := by decide +kernel
theorem dX4_isUp_9 : decode cX4_isUp 9 = .ok (.goto 4, 3) := by decide +kernel
theorem dX4_isUp_12 : decode cX4_isUp 12 = .ok (.iconst 1, 1) := by decide +kernel
theorem dX4_isUp_13 : decode cX4_isUp 13 = .ok (.invokevirtual 90, 3) := by decide +kernel
theorem dX4_isUp_16 : decode cX4_isUp 16 = .ok (.ifCond .eq 16, 3) := by decide +kernel
theorem dX4_isUp_19 : decode cX4_isUp 19 = .ok (.aload_n 0, 1) := by decide +kernel
theorem dX4_isUp_20 : decode cX4_isUp 20 = .ok (.iconst 0, 1) := by decide +kernel
theorem dX4_isUp_21 : decode cX4_isUp 21 = .ok (.iload_n 1, 1) := by decide +kernel
theorem dX4_isUp_22 : decode cX4_isUp 22 = .ok (.invokevirtual 58, 3) := by decide +kernel
theorem dX4_isUp_25 : decode cX4_isUp 25 = .ok (.ifCond .eq 7, 3) := by decide +kernel
theorem dX4_isUp_28 : decode cX4_isUp 28 = .ok (.iconst 1, 1) := by decide +kernel
theorem dX4_isUp_29 : decode cX4_isUp 29 = .ok (.goto 4, 3) := by decide +kernel
theorem dX4_isUp_32 : decode cX4_isUp 32 = .ok (.iconst 0, 1) := by decide +kernel
theorem dX4_isUp_33 : decode cX4_isUp 33 = .ok (.ireturn, 1) := by decide +kernel
theorem dX4_state_0 : decode cX4_state 0 = .ok (.aload_n 0, 1) := by decide +kernel
theorem dX4_state_1 : decode cX4_state 1 = .ok (.aload_n 0, 1) := by decide +kernel
theorem dX4_state_2 : decode cX4_state 2 = .ok (.iload_n 1, 1) := by decide +kernel
theorem dX4_state_3 : decode cX4_state 3 = .ok (.invokevirtual 96, 3) := by decide +kernel
theorem dX4_state_6 : decode cX4_state 6 = .ok (.ifCond .eq 14, 3) := by decide +kernel
theorem dX4_state_9 : decode cX4_state 9 = .ok (.iload_n 2, 1) := by decide +kernel
theorem dX4_state_10 : decode cX4_state 10 = .ok (.invokestatic 86, 3) := by decide +kernel
theorem dX4_state_13 : decode cX4_state 13 = .ok (.ifCond .eq 7, 3) := by decide +kernel
theorem dX4_state_16 : decode cX4_state 16 = .ok (.iconst 0, 1) := by decide +kernel
theorem dX4_state_17 : decode cX4_state 17 = .ok (.goto 4, 3) := by decide +kernel
theorem dX4_state_20 : decode cX4_state 20 = .ok (.iconst 1, 1) := by decide +kernel
theorem dX4_state_21 : decode cX4_state 21 = .ok (.invokevirtual 90, 3) := by decide +kernel
theorem dX4_state_24 : decode cX4_state 24 = .ok (.ifCond .eq 13, 3) := by decide +kernel
theorem dX4_state_27 : decode cX4_state 27 = .ok (.aload_n 0, 1) := by decide +kernel
theorem dX4_state_28 : decode cX4_state 28 = .ok (.iconst 0, 1) := by decide +kernel
theorem dX4_state_29 : decode cX4_state 29 = .ok (.iload_n 1, 1) := by decide +kernel
theorem dX4_state_30 : decode cX4_state 30 = .ok (.iload_n 2, 1) := by decide +kernel
theorem dX4_state_31 : decode cX4_state 31 = .ok (.invokevirtual 35, 3) := by decide +kernel
theorem dX4_state_34 : decode cX4_state 34 = .ok (.goto 4, 3) := by decide +kernel
theorem dX4_state_37 : decode cX4_state 37 = .ok (.iconst 0, 1) := by decide +kernel
theorem dX4_state_38 : decode cX4_state 38 = .ok (.ireturn, 1) := by decide +kernel
theorem dX4_decision_0 : decode cX4_decision 0 = .ok (.aload_n 0, 1) := by decide +kernel
theorem dX4_decision_1 : decode cX4_decision 1 = .ok (.aload_n 0, 1) := by decide +kernel
theorem dX4_decision_2 : decode cX4_decision 2 = .ok (.iload_n 1, 1) := by decide +kernel
theorem dX4_decision_3 : decode cX4_decision 3 = .ok (.invokevirtual 96, 3) := by decide +kernel
theorem dX4_decision_6 : decode cX4_decision 6 = .ok (.ifCond .eq 7, 3) := by decide +kernel
theorem dX4_decision_9 : decode cX4_decision 9 = .ok (.iconst 0, 1) := by decide +kernel
theorem dX4_decision_10 : decode cX4_decision 10 = .ok (.goto 4, 3) := by decide +kernel
theorem dX4_decision_13 : decode cX4_decision 13 = .ok (.iconst 1, 1) := by decide +kernel
theorem dX4_decision_14 : decode cX4_decision 14 = .ok (.invokevirtual 90, 3) := by decide +kernel
theorem dX4_decision_17 : decode cX4_decision 17 = .ok (.ifCond .eq 13, 3) := by decide +kernel
theorem dX4_decision_20 : decode cX4_decision 20 = .ok (.aload_n 0, 1) := by decide +kernel
theorem dX4_decision_21 : decode cX4_decision 21 = .ok (.iconst 0, 1) := by decide +kernel
theorem dX4_decision_22 : decode cX4_decision 22 = .ok (.iload_n 1, 1) := by decide +kernel
theorem dX4_decision_23 : decode cX4_decision 23 = .ok (.iconst 3, 1) := by decide +kernel
theorem dX4_decision_24 : decode cX4_decision 24 = .ok (.invokevirtual 24, 3) := by decide +kernel
theorem dX4_decision_27 : decode cX4_decision 27 = .ok (.goto 4, 3) := by decide +kernel
theorem dX4_decision_30 : decode cX4_decision 30 = .ok (.iconst 0, 1) := by decide +kernel
theorem dX4_decision_31 : decode cX4_decision 31 = .ok (.ireturn, 1) := by decide +kernel
theorem dX4_leader_0 : decode cX4_leader 0 = .ok (.aload_n 0, 1) := by decide +kernel
theorem dX4_leader_1 : decode cX4_leader 1 = .ok (.aload_n 0, 1) := by decide +kernel
theorem dX4_leader_2 : decode cX4_leader 2 = .ok (.iload_n 1, 1) := by decide +kernel
theorem dX4_leader_3 : decode cX4_leader 3 = .ok (.invokevirtual 96, 3) := by decide +kernel
theorem dX4_leader_6 : decode cX4_leader 6 = .ok (.ifCond .eq 7, 3) := by decide +kernel
theorem dX4_leader_9 : decode cX4_leader 9 = .ok (.iconst 0, 1) := by decide +kernel
theorem dX4_leader_10 : decode cX4_leader 10 = .ok (.goto 4, 3) := by decide +kernel
theorem dX4_leader_13 : decode cX4_leader 13 = .ok (.iconst 1, 1) := by decide +kernel
theorem dX4_leader_14 : decode cX4_leader 14 = .ok (.invokevirtual 90, 3) := by decide +kernel
theorem dX4_leader_17 : decode cX4_leader 17 = .ok (.ifCond .eq 13, 3) := by decide +kernel
theorem dX4_leader_20 : decode cX4_leader 20 = .ok (.aload_n 0, 1) := by decide +kernel
theorem dX4_leader_21 : decode cX4_leader 21 = .ok (.iconst 0, 1) := by decide +kernel
theorem dX4_leader_22 : decode cX4_leader 22 = .ok (.iload_n 1, 1) := by decide +kernel
theorem dX4_leader_23 : decode cX4_leader 23 = .ok (.iconst 0, 1) := by decide +kernel
theorem dX4_leader_24 : decode cX4_leader 24 = .ok (.invokevirtual 24, 3) := by decide +kernel
theorem dX4_leader_27 : decode cX4_leader 27 = .ok (.goto 4, 3) := by decide +kernel
theorem dX4_leader_30 : decode cX4_leader 30 = .ok (.iconst 0, 1) := by decide +kernel
theorem dX4_leader_31 : decode cX4_leader 31 = .ok (.ireturn, 1) := by decide +kernel
theorem dX4_patienceOf_0 : decode cX4_patienceOf 0 = .ok (.aload_n 0, 1) := by decide +kernel
theorem dX4_patienceOf_1 : decode cX4_patienceOf 1 = .ok (.iconst 0, 1) := by decide +kernel
theorem dX4_patienceOf_2 : decode cX4_patienceOf 2 = .ok (.iload_n 1, 1) := by decide +kernel
theorem dX4_patienceOf_3 : decode cX4_patienceOf 3 = .ok (.iload_n 2, 1) := by decide +kernel
theorem dX4_patienceOf_4 : decode cX4_patienceOf 4 = .ok (.invokevirtual 35, 3) := by decide +kernel
theorem dX4_patienceOf_7 : decode cX4_patienceOf 7 = .ok (.iconst 1, 1) := by decide +kernel
theorem dX4_patienceOf_8 : decode cX4_patienceOf 8 = .ok (.if_icmp .ne 20, 3) := by decide +kernel
theorem dX4_patienceOf_11 : decode cX4_patienceOf 11 = .ok (.aload_n 0, 1) := by decide +kernel
theorem dX4_patienceOf_12 : decode cX4_patienceOf 12 = .ok (.getfield 7, 3) := by decide +kernel
theorem dX4_patienceOf_15 : decode cX4_patienceOf 15 = .ok (.bipush 84, 2) := by decide +kernel
theorem dX4_patienceOf_17 : decode cX4_patienceOf 17 = .ok (.bipush 6, 2) := by decide +kernel
theorem dX4_patienceOf_19 : decode cX4_patienceOf 19 = .ok (.iload_n 1, 1) := by decide +kernel
theorem dX4_patienceOf_20 : decode cX4_patienceOf 20 = .ok (.imul, 1) := by decide +kernel
theorem dX4_patienceOf_21 : decode cX4_patienceOf 21 = .ok (.iadd, 1) := by decide +kernel
theorem dX4_patienceOf_22 : decode cX4_patienceOf 22 = .ok (.iload_n 2, 1) := by decide +kernel
theorem dX4_patienceOf_23 : decode cX4_patienceOf 23 = .ok (.iadd, 1) := by decide +kernel
theorem dX4_patienceOf_24 : decode cX4_patienceOf 24 = .ok (.iaload, 1) := by decide +kernel
theorem dX4_patienceOf_25 : decode cX4_patienceOf 25 = .ok (.goto 4, 3) := by decide +kernel
theorem dX4_patienceOf_28 : decode cX4_patienceOf 28 = .ok (.iconst (-1), 1) := by decide +kernel
theorem dX4_patienceOf_29 : decode cX4_patienceOf 29 = .ok (.ireturn, 1) := by decide +kernel
theorem dX4_patience_0 : decode cX4_patience 0 = .ok (.aload_n 0, 1) := by decide +kernel
theorem dX4_patience_1 : decode cX4_patience 1 = .ok (.aload_n 0, 1) := by decide +kernel
theorem dX4_patience_2 : decode cX4_patience 2 = .ok (.iload_n 1, 1) := by decide +kernel
theorem dX4_patience_3 : decode cX4_patience 3 = .ok (.invokevirtual 96, 3) := by decide +kernel
theorem dX4_patience_6 : decode cX4_patience 6 = .ok (.ifCond .eq 14, 3) := by decide +kernel
theorem dX4_patience_9 : decode cX4_patience 9 = .ok (.iload_n 2, 1) := by decide +kernel
theorem dX4_patience_10 : decode cX4_patience 10 = .ok (.invokestatic 86, 3) := by decide +kernel
theorem dX4_patience_13 : decode cX4_patience 13 = .ok (.ifCond .eq 7, 3) := by decide +kernel
theorem dX4_patience_16 : decode cX4_patience 16 = .ok (.iconst 0, 1) := by decide +kernel
theorem dX4_patience_17 : decode cX4_patience 17 = .ok (.goto 4, 3) := by decide +kernel
theorem dX4_patience_20 : decode cX4_patience 20 = .ok (.iconst 1, 1) := by decide +kernel
theorem dX4_patience_21 : decode cX4_patience 21 = .ok (.invokevirtual 90, 3) := by decide +kernel
theorem dX4_patience_24 : decode cX4_patience 24 = .ok (.ifCond .eq 12, 3) := by decide +kernel
theorem dX4_patience_27 : decode cX4_patience 27 = .ok (.aload_n 0, 1) := by decide +kernel
theorem dX4_patience_28 : decode cX4_patience 28 = .ok (.iload_n 1, 1) := by decide +kernel
theorem dX4_patience_29 : decode cX4_patience 29 = .ok (.iload_n 2, 1) := by decide +kernel
theorem dX4_patience_30 : decode cX4_patience 30 = .ok (.invokevirtual 127, 3) := by decide +kernel
theorem dX4_patience_33 : decode cX4_patience 33 = .ok (.goto 4, 3) := by decide +kernel
theorem dX4_patience_36 : decode cX4_patience 36 = .ok (.iconst 0, 1) := by decide +kernel
theorem dX4_patience_37 : decode cX4_patience 37 = .ok (.ireturn, 1) := by decide +kernel
theorem dX4_openDeals_0 : decode cX4_openDeals 0 = .ok (.iconst 0, 1) := by decide +kernel
theorem dX4_openDeals_1 : decode cX4_openDeals 1 = .ok (.istore_n 1, 1) := by decide +kernel
theorem dX4_openDeals_2 : decode cX4_openDeals 2 = .ok (.iconst 0, 1) := by decide +kernel
theorem dX4_openDeals_3 : decode cX4_openDeals 3 = .ok (.istore_n 2, 1) := by decide +kernel
theorem dX4_openDeals_4 : decode cX4_openDeals 4 = .ok (.iload_n 2, 1) := by decide +kernel
theorem dX4_openDeals_5 : decode cX4_openDeals 5 = .ok (.aload_n 0, 1) := by decide +kernel
theorem dX4_openDeals_6 : decode cX4_openDeals 6 = .ok (.getfield 7, 3) := by decide +kernel
theorem dX4_openDeals_9 : decode cX4_openDeals 9 = .ok (.iconst 3, 1) := by decide +kernel
theorem dX4_openDeals_10 : decode cX4_openDeals 10 = .ok (.iaload, 1) := by decide +kernel
theorem dX4_openDeals_11 : decode cX4_openDeals 11 = .ok (.if_icmp .ge 65, 3) := by decide +kernel
theorem dX4_openDeals_14 : decode cX4_openDeals 14 = .ok (.iconst 0, 1) := by decide +kernel
theorem dX4_openDeals_15 : decode cX4_openDeals 15 = .ok (.istore_n 3, 1) := by decide +kernel
theorem dX4_openDeals_16 : decode cX4_openDeals 16 = .ok (.iconst 0, 1) := by decide +kernel
theorem dX4_openDeals_17 : decode cX4_openDeals 17 = .ok (.istore 4, 2) := by decide +kernel
theorem dX4_openDeals_19 : decode cX4_openDeals 19 = .ok (.iload 4, 2) := by decide +kernel
theorem dX4_openDeals_21 : decode cX4_openDeals 21 = .ok (.bipush 6, 2) := by decide +kernel
theorem dX4_openDeals_23 : decode cX4_openDeals 23 = .ok (.if_icmp .ge 35, 3) := by decide +kernel
theorem dX4_openDeals_26 : decode cX4_openDeals 26 = .ok (.iload_n 3, 1) := by decide +kernel
theorem dX4_openDeals_27 : decode cX4_openDeals 27 = .ok (.ifCond .ne 19, 3) := by decide +kernel
theorem dX4_openDeals_30 : decode cX4_openDeals 30 = .ok (.aload_n 0, 1) := by decide +kernel
theorem dX4_openDeals_31 : decode cX4_openDeals 31 = .ok (.iconst 0, 1) := by decide +kernel
theorem dX4_openDeals_32 : decode cX4_openDeals 32 = .ok (.iload_n 2, 1) := by decide +kernel
theorem dX4_openDeals_33 : decode cX4_openDeals 33 = .ok (.iload 4, 2) := by decide +kernel
theorem dX4_openDeals_35 : decode cX4_openDeals 35 = .ok (.invokevirtual 35, 3) := by decide +kernel
theorem dX4_openDeals_38 : decode cX4_openDeals 38 = .ok (.iconst 0, 1) := by decide +kernel
theorem dX4_openDeals_39 : decode cX4_openDeals 39 = .ok (.iconst 1, 1) := by decide +kernel
theorem dX4_openDeals_40 : decode cX4_openDeals 40 = .ok (.invokestatic 20, 3) := by decide +kernel
theorem dX4_openDeals_43 : decode cX4_openDeals 43 = .ok (.ifCond .eq 7, 3) := by decide +kernel
theorem dX4_openDeals_46 : decode cX4_openDeals 46 = .ok (.iconst 1, 1) := by decide +kernel
theorem dX4_openDeals_47 : decode cX4_openDeals 47 = .ok (.goto 4, 3) := by decide +kernel
theorem dX4_openDeals_50 : decode cX4_openDeals 50 = .ok (.iconst 0, 1) := by decide +kernel
theorem dX4_openDeals_51 : decode cX4_openDeals 51 = .ok (.istore_n 3, 1) := by decide +kernel
theorem dX4_openDeals_52 : decode cX4_openDeals 52 = .ok (.iinc 4 1, 3) := by decide +kernel
theorem dX4_openDeals_55 : decode cX4_openDeals 55 = .ok (.goto (-36), 3) := by decide +kernel
theorem dX4_openDeals_58 : decode cX4_openDeals 58 = .ok (.iload_n 1, 1) := by decide +kernel
theorem dX4_openDeals_59 : decode cX4_openDeals 59 = .ok (.iload_n 3, 1) := by decide +kernel
theorem dX4_openDeals_60 : decode cX4_openDeals 60 = .ok (.ifCond .eq 7, 3) := by decide +kernel
theorem dX4_openDeals_63 : decode cX4_openDeals 63 = .ok (.iconst 1, 1) := by decide +kernel
theorem dX4_openDeals_64 : decode cX4_openDeals 64 = .ok (.goto 4, 3) := by decide +kernel
theorem dX4_openDeals_67 : decode cX4_openDeals 67 = .ok (.iconst 0, 1) := by decide +kernel
theorem dX4_openDeals_68 : decode cX4_openDeals 68 = .ok (.iadd, 1) := by decide +kernel
theorem dX4_openDeals_69 : decode cX4_openDeals 69 = .ok (.istore_n 1, 1) := by decide +kernel
theorem dX4_openDeals_70 : decode cX4_openDeals 70 = .ok (.iinc 2 1, 3) := by decide +kernel
theorem dX4_openDeals_73 : decode cX4_openDeals 73 = .ok (.goto (-69), 3) := by decide +kernel
theorem dX4_openDeals_76 : decode cX4_openDeals 76 = .ok (.iload_n 1, 1) := by decide +kernel
theorem dX4_openDeals_77 : decode cX4_openDeals 77 = .ok (.ireturn, 1) := by decide +kernel
theorem dX4_open_0 : decode cX4_open 0 = .ok (.aload_n 0, 1) := by decide +kernel
theorem dX4_open_1 : decode cX4_open 1 = .ok (.iconst 0, 1) := by decide +kernel
theorem dX4_open_2 : decode cX4_open 2 = .ok (.putfield 16, 3) := by decide +kernel
theorem dX4_open_5 : decode cX4_open 5 = .ok (.aload_n 0, 1) := by decide +kernel
theorem dX4_open_6 : decode cX4_open 6 = .ok (.invokevirtual 130, 3) := by decide +kernel
theorem dX4_open_9 : decode cX4_open 9 = .ok (.ireturn, 1) := by decide +kernel
theorem dX4_helperOf_0 : decode cX4_helperOf 0 = .ok (.aload_n 0, 1) := by decide +kernel
theorem dX4_helperOf_1 : decode cX4_helperOf 1 = .ok (.iconst 0, 1) := by decide +kernel
theorem dX4_helperOf_2 : decode cX4_helperOf 2 = .ok (.iload_n 2, 1) := by decide +kernel
theorem dX4_helperOf_3 : decode cX4_helperOf 3 = .ok (.invokevirtual 58, 3) := by decide +kernel
theorem dX4_helperOf_6 : decode cX4_helperOf 6 = .ok (.ifCond .eq 14, 3) := by decide +kernel
theorem dX4_helperOf_9 : decode cX4_helperOf 9 = .ok (.aload_n 0, 1) := by decide +kernel
theorem dX4_helperOf_10 : decode cX4_helperOf 10 = .ok (.iconst 0, 1) := by decide +kernel
theorem dX4_helperOf_11 : decode cX4_helperOf 11 = .ok (.iload_n 1, 1) := by decide +kernel
theorem dX4_helperOf_12 : decode cX4_helperOf 12 = .ok (.iload_n 2, 1) := by decide +kernel
theorem dX4_helperOf_13 : decode cX4_helperOf 13 = .ok (.invokevirtual 35, 3) := by decide +kernel
theorem dX4_helperOf_16 : decode cX4_helperOf 16 = .ok (.iconst 1, 1) := by decide +kernel
theorem dX4_helperOf_17 : decode cX4_helperOf 17 = .ok (.if_icmp .eq 5, 3) := by decide +kernel
theorem dX4_helperOf_20 : decode cX4_helperOf 20 = .ok (.iconst (-1), 1) := by decide +kernel
theorem dX4_helperOf_21 : decode cX4_helperOf 21 = .ok (.ireturn, 1) := by decide +kernel
theorem dX4_helperOf_22 : decode cX4_helperOf 22 = .ok (.iconst 0, 1) := by decide +kernel
theorem dX4_helperOf_23 : decode cX4_helperOf 23 = .ok (.istore_n 3, 1) := by decide +kernel
theorem dX4_helperOf_24 : decode cX4_helperOf 24 = .ok (.iload_n 3, 1) := by decide +kernel
theorem dX4_helperOf_25 : decode cX4_helperOf 25 = .ok (.bipush 6, 2) := by decide +kernel
theorem dX4_helperOf_27 : decode cX4_helperOf 27 = .ok (.if_icmp .ge 35, 3) := by decide +kernel
theorem dX4_helperOf_30 : decode cX4_helperOf 30 = .ok (.iload_n 3, 1) := by decide +kernel
theorem dX4_helperOf_31 : decode cX4_helperOf 31 = .ok (.iload_n 2, 1) := by decide +kernel
theorem dX4_helperOf_32 : decode cX4_helperOf 32 = .ok (.if_icmp .eq 24, 3) := by decide +kernel
theorem dX4_helperOf_35 : decode cX4_helperOf 35 = .ok (.aload_n 0, 1) := by decide +kernel
theorem dX4_helperOf_36 : decode cX4_helperOf 36 = .ok (.iconst 0, 1) := by decide +kernel
theorem dX4_helperOf_37 : decode cX4_helperOf 37 = .ok (.iload_n 3, 1) := by decide +kernel
theorem dX4_helperOf_38 : decode cX4_helperOf 38 = .ok (.invokevirtual 58, 3) := by decide +kernel
theorem dX4_helperOf_41 : decode cX4_helperOf 41 = .ok (.ifCond .eq 15, 3) := by decide +kernel
theorem dX4_helperOf_44 : decode cX4_helperOf 44 = .ok (.aload_n 0, 1) := by decide +kernel
theorem dX4_helperOf_45 : decode cX4_helperOf 45 = .ok (.iconst 0, 1) := by decide +kernel
theorem dX4_helperOf_46 : decode cX4_helperOf 46 = .ok (.iload_n 1, 1) := by decide +kernel
theorem dX4_helperOf_47 : decode cX4_helperOf 47 = .ok (.iload_n 3, 1) := by decide +kernel
theorem dX4_helperOf_48 : decode cX4_helperOf 48 = .ok (.invokevirtual 55, 3) := by decide +kernel
theorem dX4_helperOf_51 : decode cX4_helperOf 51 = .ok (.ifCond .eq 5, 3) := by decide +kernel
theorem dX4_helperOf_54 : decode cX4_helperOf 54 = .ok (.iload_n 3, 1) := by decide +kernel
theorem dX4_helperOf_55 : decode cX4_helperOf 55 = .ok (.ireturn, 1) := by decide +kernel
theorem dX4_helperOf_56 : decode cX4_helperOf 56 = .ok (.iinc 3 1, 3) := by decide +kernel
theorem dX4_helperOf_59 : decode cX4_helperOf 59 = .ok (.goto (-35), 3) := by decide +kernel
theorem dX4_helperOf_62 : decode cX4_helperOf 62 = .ok (.iconst (-1), 1) := by decide +kernel
theorem dX4_helperOf_63 : decode cX4_helperOf 63 = .ok (.ireturn, 1) := by decide +kernel
theorem dX4_stuckDeals_0 : decode cX4_stuckDeals 0 = .ok (.iconst 0, 1) := by decide +kernel
theorem dX4_stuckDeals_1 : decode cX4_stuckDeals 1 = .ok (.istore_n 1, 1) := by decide +kernel
theorem dX4_stuckDeals_2 : decode cX4_stuckDeals 2 = .ok (.iconst 0, 1) := by decide +kernel
theorem dX4_stuckDeals_3 : decode cX4_stuckDeals 3 = .ok (.istore_n 2, 1) := by decide +kernel
theorem dX4_stuckDeals_4 : decode cX4_stuckDeals 4 = .ok (.iload_n 2, 1) := by decide +kernel
theorem dX4_stuckDeals_5 : decode cX4_stuckDeals 5 = .ok (.aload_n 0, 1) := by decide +kernel
theorem dX4_stuckDeals_6 : decode cX4_stuckDeals 6 = .ok (.getfield 7, 3) := by decide +kernel
theorem dX4_stuckDeals_9 : decode cX4_stuckDeals 9 = .ok (.iconst 3, 1) := by decide +kernel
theorem dX4_stuckDeals_10 : decode cX4_stuckDeals 10 = .ok (.iaload, 1) := by decide +kernel
theorem dX4_stuckDeals_11 : decode cX4_stuckDeals 11 = .ok (.if_icmp .ge 102, 3) := by decide +kernel
theorem dX4_stuckDeals_14 : decode cX4_stuckDeals 14 = .ok (.iconst 0, 1) := by decide +kernel
theorem dX4_stuckDeals_15 : decode cX4_stuckDeals 15 = .ok (.istore_n 3, 1) := by decide +kernel
theorem dX4_stuckDeals_16 : decode cX4_stuckDeals 16 = .ok (.iconst 0, 1) := by decide +kernel
theorem dX4_stuckDeals_17 : decode cX4_stuckDeals 17 = .ok (.istore 4, 2) := by decide +kernel
theorem dX4_stuckDeals_19 : decode cX4_stuckDeals 19 = .ok (.iconst 0, 1) := by decide +kernel
theorem dX4_stuckDeals_20 : decode cX4_stuckDeals 20 = .ok (.istore 5, 2) := by decide +kernel
theorem dX4_stuckDeals_22 : decode cX4_stuckDeals 22 = .ok (.iload 5, 2) := by decide +kernel
theorem dX4_stuckDeals_24 : decode cX4_stuckDeals 24 = .ok (.bipush 6, 2) := by decide +kernel
theorem dX4_stuckDeals_26 : decode cX4_stuckDeals 26 = .ok (.if_icmp .ge 64, 3) := by decide +kernel
theorem dX4_stuckDeals_29 : decode cX4_stuckDeals 29 = .ok (.iload_n 3, 1) := by decide +kernel
theorem dX4_stuckDeals_30 : decode cX4_stuckDeals 30 = .ok (.ifCond .ne 25, 3) := by decide +kernel
theorem dX4_stuckDeals_33 : decode cX4_stuckDeals 33 = .ok (.aload_n 0, 1) := by decide +kernel
theorem dX4_stuckDeals_34 : decode cX4_stuckDeals 34 = .ok (.iconst 0, 1) := by decide +kernel
theorem dX4_stuckDeals_35 : decode cX4_stuckDeals 35 = .ok (.iload 5, 2) := by decide +kernel
theorem dX4_stuckDeals_37 : decode cX4_stuckDeals 37 = .ok (.invokevirtual 58, 3) := by decide +kernel
theorem dX4_stuckDeals_40 : decode cX4_stuckDeals 40 = .ok (.ifCond .eq 19, 3) := by decide +kernel
theorem dX4_stuckDeals_43 : decode cX4_stuckDeals 43 = .ok (.aload_n 0, 1) := by decide +kernel
theorem dX4_stuckDeals_44 : decode cX4_stuckDeals 44 = .ok (.iconst 0, 1) := by decide +kernel
theorem dX4_stuckDeals_45 : decode cX4_stuckDeals 45 = .ok (.iload_n 2, 1) := by decide +kernel
theorem dX4_stuckDeals_46 : decode cX4_stuckDeals 46 = .ok (.iload 5, 2) := by decide +kernel
theorem dX4_stuckDeals_48 : decode cX4_stuckDeals 48 = .ok (.invokevirtual 35, 3) := by decide +kernel
theorem dX4_stuckDeals_51 : decode cX4_stuckDeals 51 = .ok (.iconst 1, 1) := by decide +kernel
theorem dX4_stuckDeals_52 : decode cX4_stuckDeals 52 = .ok (.if_icmp .ne 7, 3) := by decide +kernel
theorem dX4_stuckDeals_55 : decode cX4_stuckDeals 55 = .ok (.iconst 1, 1) := by decide +kernel
theorem dX4_stuckDeals_56 : decode cX4_stuckDeals 56 = .ok (.goto 4, 3) := by decide +kernel
theorem dX4_stuckDeals_59 : decode cX4_stuckDeals 59 = .ok (.iconst 0, 1) := by decide +kernel
theorem dX4_stuckDeals_60 : decode cX4_stuckDeals 60 = .ok (.istore_n 3, 1) := by decide +kernel
theorem dX4_stuckDeals_61 : decode cX4_stuckDeals 61 = .ok (.iload 4, 2) := by decide +kernel
theorem dX4_stuckDeals_63 : decode cX4_stuckDeals 63 = .ok (.ifCond .ne 14, 3) := by decide +kernel
theorem dX4_stuckDeals_66 : decode cX4_stuckDeals 66 = .ok (.aload_n 0, 1) := by decide +kernel
theorem dX4_stuckDeals_67 : decode cX4_stuckDeals 67 = .ok (.iload_n 2, 1) := by decide +kernel
theorem dX4_stuckDeals_68 : decode cX4_stuckDeals 68 = .ok (.iload 5, 2) := by decide +kernel
theorem dX4_stuckDeals_70 : decode cX4_stuckDeals 70 = .ok (.invokevirtual 134, 3) := by decide +kernel
theorem dX4_stuckDeals_73 : decode cX4_stuckDeals 73 = .ok (.iconst (-1), 1) := by decide +kernel
theorem dX4_stuckDeals_74 : decode cX4_stuckDeals 74 = .ok (.if_icmp .eq 7, 3) := by decide +kernel
theorem dX4_stuckDeals_77 : decode cX4_stuckDeals 77 = .ok (.iconst 1, 1) := by decide +kernel
theorem dX4_stuckDeals_78 : decode cX4_stuckDeals 78 = .ok (.goto 4, 3) := by decide +kernel
theorem dX4_stuckDeals_81 : decode cX4_stuckDeals 81 = .ok (.iconst 0, 1) := by decide +kernel
theorem dX4_stuckDeals_82 : decode cX4_stuckDeals 82 = .ok (.istore 4, 2) := by decide +kernel
theorem dX4_stuckDeals_84 : decode cX4_stuckDeals 84 = .ok (.iinc 5 1, 3) := by decide +kernel
theorem dX4_stuckDeals_87 : decode cX4_stuckDeals 87 = .ok (.goto (-65), 3) := by decide +kernel
theorem dX4_stuckDeals_90 : decode cX4_stuckDeals 90 = .ok (.iload_n 1, 1) := by decide +kernel
theorem dX4_stuckDeals_91 : decode cX4_stuckDeals 91 = .ok (.iload_n 3, 1) := by decide +kernel
theorem dX4_stuckDeals_92 : decode cX4_stuckDeals 92 = .ok (.ifCond .eq 12, 3) := by decide +kernel
theorem dX4_stuckDeals_95 : decode cX4_stuckDeals 95 = .ok (.iload 4, 2) := by decide +kernel
theorem dX4_stuckDeals_97 : decode cX4_stuckDeals 97 = .ok (.ifCond .ne 7, 3) := by decide +kernel
theorem dX4_stuckDeals_100 : decode cX4_stuckDeals 100 = .ok (.iconst 1, 1) := by decide +kernel
theorem dX4_stuckDeals_101 : decode cX4_stuckDeals 101 = .ok (.goto 4, 3) := by decide +kernel
theorem dX4_stuckDeals_104 : decode cX4_stuckDeals 104 = .ok (.iconst 0, 1) := by decide +kernel
theorem dX4_stuckDeals_105 : decode cX4_stuckDeals 105 = .ok (.iadd, 1) := by decide +kernel
theorem dX4_stuckDeals_106 : decode cX4_stuckDeals 106 = .ok (.istore_n 1, 1) := by decide +kernel
theorem dX4_stuckDeals_107 : decode cX4_stuckDeals 107 = .ok (.iinc 2 1, 3) := by decide +kernel
theorem dX4_stuckDeals_110 : decode cX4_stuckDeals 110 = .ok (.goto (-106), 3) := by decide +kernel
theorem dX4_stuckDeals_113 : decode cX4_stuckDeals 113 = .ok (.iload_n 1, 1) := by decide +kernel
theorem dX4_stuckDeals_114 : decode cX4_stuckDeals 114 = .ok (.ireturn, 1) := by decide +kernel
theorem dX4_stuck_0 : decode cX4_stuck 0 = .ok (.aload_n 0, 1) := by decide +kernel
theorem dX4_stuck_1 : decode cX4_stuck 1 = .ok (.iconst 0, 1) := by decide +kernel
theorem dX4_stuck_2 : decode cX4_stuck 2 = .ok (.putfield 16, 3) := by decide +kernel
theorem dX4_stuck_5 : decode cX4_stuck 5 = .ok (.aload_n 0, 1) := by decide +kernel
theorem dX4_stuck_6 : decode cX4_stuck 6 = .ok (.invokevirtual 137, 3) := by decide +kernel
theorem dX4_stuck_9 : decode cX4_stuck 9 = .ok (.ireturn, 1) := by decide +kernel
theorem dX4_logLength_0 : decode cX4_logLength 0 = .ok (.aload_n 0, 1) := by decide +kernel
theorem dX4_logLength_1 : decode cX4_logLength 1 = .ok (.iload_n 1, 1) := by decide +kernel
theorem dX4_logLength_2 : decode cX4_logLength 2 = .ok (.invokestatic 86, 3) := by decide +kernel
theorem dX4_logLength_5 : decode cX4_logLength 5 = .ok (.ifCond .eq 7, 3) := by decide +kernel
theorem dX4_logLength_8 : decode cX4_logLength 8 = .ok (.iconst 0, 1) := by decide +kernel
theorem dX4_logLength_9 : decode cX4_logLength 9 = .ok (.goto 4, 3) := by decide +kernel
theorem dX4_logLength_12 : decode cX4_logLength 12 = .ok (.iconst 1, 1) := by decide +kernel
theorem dX4_logLength_13 : decode cX4_logLength 13 = .ok (.invokevirtual 90, 3) := by decide +kernel
theorem dX4_logLength_16 : decode cX4_logLength 16 = .ok (.ifCond .eq 19, 3) := by decide +kernel
theorem dX4_logLength_19 : decode cX4_logLength 19 = .ok (.aload_n 0, 1) := by decide +kernel
theorem dX4_logLength_20 : decode cX4_logLength 20 = .ok (.getfield 7, 3) := by decide +kernel
theorem dX4_logLength_23 : decode cX4_logLength 23 = .ok (.sipush 132, 3) := by decide +kernel
theorem dX4_logLength_26 : decode cX4_logLength 26 = .ok (.bipush 25, 2) := by decide +kernel
theorem dX4_logLength_28 : decode cX4_logLength 28 = .ok (.iload_n 1, 1) := by decide +kernel
theorem dX4_logLength_29 : decode cX4_logLength 29 = .ok (.imul, 1) := by decide +kernel
theorem dX4_logLength_30 : decode cX4_logLength 30 = .ok (.iadd, 1) := by decide +kernel
theorem dX4_logLength_31 : decode cX4_logLength 31 = .ok (.iaload, 1) := by decide +kernel
theorem dX4_logLength_32 : decode cX4_logLength 32 = .ok (.goto 4, 3) := by decide +kernel
theorem dX4_logLength_35 : decode cX4_logLength 35 = .ok (.iconst 0, 1) := by decide +kernel
theorem dX4_logLength_36 : decode cX4_logLength 36 = .ok (.ireturn, 1) := by decide +kernel
theorem dX4_log_0 : decode cX4_log 0 = .ok (.aload_n 0, 1) := by decide +kernel
theorem dX4_log_1 : decode cX4_log 1 = .ok (.iload_n 1, 1) := by decide +kernel
theorem dX4_log_2 : decode cX4_log 2 = .ok (.invokestatic 86, 3) := by decide +kernel
theorem dX4_log_5 : decode cX4_log 5 = .ok (.ifCond .eq 11, 3) := by decide +kernel
theorem dX4_log_8 : decode cX4_log 8 = .ok (.iload_n 2, 1) := by decide +kernel
theorem dX4_log_9 : decode cX4_log 9 = .ok (.ifCond .lt 7, 3) := by decide +kernel
theorem dX4_log_12 : decode cX4_log 12 = .ok (.iconst 0, 1) := by decide +kernel
theorem dX4_log_13 : decode cX4_log 13 = .ok (.goto 4, 3) := by decide +kernel
theorem dX4_log_16 : decode cX4_log 16 = .ok (.iconst 1, 1) := by decide +kernel
theorem dX4_log_17 : decode cX4_log 17 = .ok (.invokevirtual 90, 3) := by decide +kernel
theorem dX4_log_20 : decode cX4_log 20 = .ok (.ifCond .ne 5, 3) := by decide +kernel
theorem dX4_log_23 : decode cX4_log 23 = .ok (.iconst 0, 1) := by decide +kernel
theorem dX4_log_24 : decode cX4_log 24 = .ok (.ireturn, 1) := by decide +kernel
theorem dX4_log_25 : decode cX4_log 25 = .ok (.iload_n 2, 1) := by decide +kernel
theorem dX4_log_26 : decode cX4_log 26 = .ok (.aload_n 0, 1) := by decide +kernel
theorem dX4_log_27 : decode cX4_log 27 = .ok (.getfield 7, 3) := by decide +kernel
theorem dX4_log_30 : decode cX4_log 30 = .ok (.sipush 132, 3) := by decide +kernel
theorem dX4_log_33 : decode cX4_log 33 = .ok (.bipush 25, 2) := by decide +kernel
theorem dX4_log_35 : decode cX4_log 35 = .ok (.iload_n 1, 1) := by decide +kernel
theorem dX4_log_36 : decode cX4_log 36 = .ok (.imul, 1) := by decide +kernel
theorem dX4_log_37 : decode cX4_log 37 = .ok (.iadd, 1) := by decide +kernel
theorem dX4_log_38 : decode cX4_log 38 = .ok (.iaload, 1) := by decide +kernel
theorem dX4_log_39 : decode cX4_log 39 = .ok (.if_icmp .ge 23, 3) := by decide +kernel
theorem dX4_log_42 : decode cX4_log 42 = .ok (.aload_n 0, 1) := by decide +kernel
theorem dX4_log_43 : decode cX4_log 43 = .ok (.getfield 7, 3) := by decide +kernel
theorem dX4_log_46 : decode cX4_log 46 = .ok (.sipush 132, 3) := by decide +kernel
theorem dX4_log_49 : decode cX4_log 49 = .ok (.bipush 25, 2) := by decide +kernel
theorem dX4_log_51 : decode cX4_log 51 = .ok (.iload_n 1, 1) := by decide +kernel
theorem dX4_log_52 : decode cX4_log 52 = .ok (.imul, 1) := by decide +kernel
theorem dX4_log_53 : decode cX4_log 53 = .ok (.iadd, 1) := by decide +kernel
theorem dX4_log_54 : decode cX4_log 54 = .ok (.iconst 1, 1) := by decide +kernel
theorem dX4_log_55 : decode cX4_log 55 = .ok (.iadd, 1) := by decide +kernel
theorem dX4_log_56 : decode cX4_log 56 = .ok (.iload_n 2, 1) := by decide +kernel
theorem dX4_log_57 : decode cX4_log 57 = .ok (.iadd, 1) := by decide +kernel
theorem dX4_log_58 : decode cX4_log 58 = .ok (.iaload, 1) := by decide +kernel
theorem dX4_log_59 : decode cX4_log 59 = .ok (.goto 4, 3) := by decide +kernel
theorem dX4_log_62 : decode cX4_log 62 = .ok (.iconst (-1), 1) := by decide +kernel
theorem dX4_log_63 : decode cX4_log 63 = .ok (.ireturn, 1) := by decide +kernel
theorem dX4_held_0 : decode cX4_held 0 = .ok (.aload_n 0, 1) := by decide +kernel
theorem dX4_held_1 : decode cX4_held 1 = .ok (.iload_n 1, 1) := by decide +kernel
theorem dX4_held_2 : decode cX4_held 2 = .ok (.invokestatic 86, 3) := by decide +kernel
theorem dX4_held_5 : decode cX4_held 5 = .ok (.ifCond .eq 7, 3) := by decide +kernel
theorem dX4_held_8 : decode cX4_held 8 = .ok (.iconst 0, 1) := by decide +kernel
theorem dX4_held_9 : decode cX4_held 9 = .ok (.goto 4, 3) := by decide +kernel
theorem dX4_held_12 : decode cX4_held 12 = .ok (.iconst 1, 1) := by decide +kernel
theorem dX4_held_13 : decode cX4_held 13 = .ok (.invokevirtual 90, 3) := by decide +kernel
theorem dX4_held_16 : decode cX4_held 16 = .ok (.ifCond .eq 12, 3) := by decide +kernel
theorem dX4_held_19 : decode cX4_held 19 = .ok (.aload_n 0, 1) := by decide +kernel
theorem dX4_held_20 : decode cX4_held 20 = .ok (.iconst 0, 1) := by decide +kernel
theorem dX4_held_21 : decode cX4_held 21 = .ok (.iload_n 1, 1) := by decide +kernel
theorem dX4_held_22 : decode cX4_held 22 = .ok (.invokevirtual 38, 3) := by decide +kernel
theorem dX4_held_25 : decode cX4_held 25 = .ok (.goto 4, 3) := by decide +kernel
theorem dX4_held_28 : decode cX4_held 28 = .ok (.iconst 0, 1) := by decide +kernel
theorem dX4_held_29 : decode cX4_held 29 = .ok (.ireturn, 1) := by decide +kernel
theorem dX4_asked_0 : decode cX4_asked 0 = .ok (.aload_n 0, 1) := by decide +kernel
theorem dX4_asked_1 : decode cX4_asked 1 = .ok (.iconst 0, 1) := by decide +kernel
theorem dX4_asked_2 : decode cX4_asked 2 = .ok (.putfield 16, 3) := by decide +kernel
theorem dX4_asked_5 : decode cX4_asked 5 = .ok (.aload_n 0, 1) := by decide +kernel
theorem dX4_asked_6 : decode cX4_asked 6 = .ok (.getfield 7, 3) := by decide +kernel
theorem dX4_asked_9 : decode cX4_asked 9 = .ok (.iconst 1, 1) := by decide +kernel
theorem dX4_asked_10 : decode cX4_asked 10 = .ok (.iaload, 1) := by decide +kernel
theorem dX4_asked_11 : decode cX4_asked 11 = .ok (.ireturn, 1) := by decide +kernel
theorem dX4_doubtShare_0 : decode cX4_doubtShare 0 = .ok (.aload_n 0, 1) := by decide +kernel
theorem dX4_doubtShare_1 : decode cX4_doubtShare 1 = .ok (.iconst 0, 1) := by decide +kernel
theorem dX4_doubtShare_2 : decode cX4_doubtShare 2 = .ok (.putfield 16, 3) := by decide +kernel
theorem dX4_doubtShare_5 : decode cX4_doubtShare 5 = .ok (.iconst 0, 1) := by decide +kernel
theorem dX4_doubtShare_6 : decode cX4_doubtShare 6 = .ok (.istore_n 1, 1) := by decide +kernel
theorem dX4_doubtShare_7 : decode cX4_doubtShare 7 = .ok (.iconst 0, 1) := by decide +kernel
theorem dX4_doubtShare_8 : decode cX4_doubtShare 8 = .ok (.istore_n 2, 1) := by decide +kernel
theorem dX4_doubtShare_9 : decode cX4_doubtShare 9 = .ok (.iconst 0, 1) := by decide +kernel
theorem dX4_doubtShare_10 : decode cX4_doubtShare 10 = .ok (.istore_n 3, 1) := by decide +kernel
theorem dX4_doubtShare_11 : decode cX4_doubtShare 11 = .ok (.iload_n 3, 1) := by decide +kernel
theorem dX4_doubtShare_12 : decode cX4_doubtShare 12 = .ok (.bipush 6, 2) := by decide +kernel
theorem dX4_doubtShare_14 : decode cX4_doubtShare 14 = .ok (.aload_n 0, 1) := by decide +kernel
theorem dX4_doubtShare_15 : decode cX4_doubtShare 15 = .ok (.getfield 7, 3) := by decide +kernel
theorem dX4_doubtShare_18 : decode cX4_doubtShare 18 = .ok (.iconst 3, 1) := by decide +kernel
theorem dX4_doubtShare_19 : decode cX4_doubtShare 19 = .ok (.iaload, 1) := by decide +kernel
theorem dX4_doubtShare_20 : decode cX4_doubtShare 20 = .ok (.imul, 1) := by decide +kernel
theorem dX4_doubtShare_21 : decode cX4_doubtShare 21 = .ok (.if_icmp .ge 58, 3) := by decide +kernel
theorem dX4_doubtShare_24 : decode cX4_doubtShare 24 = .ok (.iload_n 1, 1) := by decide +kernel
theorem dX4_doubtShare_25 : decode cX4_doubtShare 25 = .ok (.aload_n 0, 1) := by decide +kernel
theorem dX4_doubtShare_26 : decode cX4_doubtShare 26 = .ok (.iconst 0, 1) := by decide +kernel
theorem dX4_doubtShare_27 : decode cX4_doubtShare 27 = .ok (.iload_n 3, 1) := by decide +kernel
theorem dX4_doubtShare_28 : decode cX4_doubtShare 28 = .ok (.bipush 6, 2) := by decide +kernel
theorem dX4_doubtShare_30 : decode cX4_doubtShare 30 = .ok (.idiv, 1) := by decide +kernel
theorem dX4_doubtShare_31 : decode cX4_doubtShare 31 = .ok (.iload_n 3, 1) := by decide +kernel
theorem dX4_doubtShare_32 : decode cX4_doubtShare 32 = .ok (.bipush 6, 2) := by decide +kernel
theorem dX4_doubtShare_34 : decode cX4_doubtShare 34 = .ok (.irem, 1) := by decide +kernel
theorem dX4_doubtShare_35 : decode cX4_doubtShare 35 = .ok (.invokevirtual 28, 3) := by decide +kernel
theorem dX4_doubtShare_38 : decode cX4_doubtShare 38 = .ok (.ifCond .eq 7, 3) := by decide +kernel
theorem dX4_doubtShare_41 : decode cX4_doubtShare 41 = .ok (.iconst 1, 1) := by decide +kernel
theorem dX4_doubtShare_42 : decode cX4_doubtShare 42 = .ok (.goto 4, 3) := by decide +kernel
theorem dX4_doubtShare_45 : decode cX4_doubtShare 45 = .ok (.iconst 0, 1) := by decide +kernel
theorem dX4_doubtShare_46 : decode cX4_doubtShare 46 = .ok (.iadd, 1) := by decide +kernel
theorem dX4_doubtShare_47 : decode cX4_doubtShare 47 = .ok (.istore_n 1, 1) := by decide +kernel
theorem dX4_doubtShare_48 : decode cX4_doubtShare 48 = .ok (.iload_n 2, 1) := by decide +kernel
theorem dX4_doubtShare_49 : decode cX4_doubtShare 49 = .ok (.aload_n 0, 1) := by decide +kernel
theorem dX4_doubtShare_50 : decode cX4_doubtShare 50 = .ok (.iconst 0, 1) := by decide +kernel
theorem dX4_doubtShare_51 : decode cX4_doubtShare 51 = .ok (.iload_n 3, 1) := by decide +kernel
theorem dX4_doubtShare_52 : decode cX4_doubtShare 52 = .ok (.bipush 6, 2) := by decide +kernel
theorem dX4_doubtShare_54 : decode cX4_doubtShare 54 = .ok (.idiv, 1) := by decide +kernel
theorem dX4_doubtShare_55 : decode cX4_doubtShare 55 = .ok (.iload_n 3, 1) := by decide +kernel
theorem dX4_doubtShare_56 : decode cX4_doubtShare 56 = .ok (.bipush 6, 2) := by decide +kernel
theorem dX4_doubtShare_58 : decode cX4_doubtShare 58 = .ok (.irem, 1) := by decide +kernel
theorem dX4_doubtShare_59 : decode cX4_doubtShare 59 = .ok (.invokevirtual 35, 3) := by decide +kernel
theorem dX4_doubtShare_62 : decode cX4_doubtShare 62 = .ok (.iconst 1, 1) := by decide +kernel
theorem dX4_doubtShare_63 : decode cX4_doubtShare 63 = .ok (.if_icmp .ne 7, 3) := by decide +kernel
theorem dX4_doubtShare_66 : decode cX4_doubtShare 66 = .ok (.iconst 1, 1) := by decide +kernel
theorem dX4_doubtShare_67 : decode cX4_doubtShare 67 = .ok (.goto 4, 3) := by decide +kernel
theorem dX4_doubtShare_70 : decode cX4_doubtShare 70 = .ok (.iconst 0, 1) := by decide +kernel
theorem dX4_doubtShare_71 : decode cX4_doubtShare 71 = .ok (.iadd, 1) := by decide +kernel
theorem dX4_doubtShare_72 : decode cX4_doubtShare 72 = .ok (.istore_n 2, 1) := by decide +kernel
theorem dX4_doubtShare_73 : decode cX4_doubtShare 73 = .ok (.iinc 3 1, 3) := by decide +kernel
theorem dX4_doubtShare_76 : decode cX4_doubtShare 76 = .ok (.goto (-65), 3) := by decide +kernel
theorem dX4_doubtShare_79 : decode cX4_doubtShare 79 = .ok (.iload_n 1, 1) := by decide +kernel
theorem dX4_doubtShare_80 : decode cX4_doubtShare 80 = .ok (.ifCond .ne 7, 3) := by decide +kernel
theorem dX4_doubtShare_83 : decode cX4_doubtShare 83 = .ok (.dconst 0, 1) := by decide +kernel
theorem dX4_doubtShare_84 : decode cX4_doubtShare 84 = .ok (.goto 8, 3) := by decide +kernel
theorem dX4_doubtShare_87 : decode cX4_doubtShare 87 = .ok (.iload_n 2, 1) := by decide +kernel
theorem dX4_doubtShare_88 : decode cX4_doubtShare 88 = .ok (.i2d, 1) := by decide +kernel
theorem dX4_doubtShare_89 : decode cX4_doubtShare 89 = .ok (.iload_n 1, 1) := by decide +kernel
theorem dX4_doubtShare_90 : decode cX4_doubtShare 90 = .ok (.i2d, 1) := by decide +kernel
theorem dX4_doubtShare_91 : decode cX4_doubtShare 91 = .ok (.ddiv, 1) := by decide +kernel
theorem dX4_doubtShare_92 : decode cX4_doubtShare 92 = .ok (.dreturn, 1) := by decide +kernel
theorem dX4_reason_0 : decode cX4_reason 0 = .ok (.aload_n 0, 1) := by decide +kernel
theorem dX4_reason_1 : decode cX4_reason 1 = .ok (.aload_n 0, 1) := by decide +kernel
theorem dX4_reason_2 : decode cX4_reason 2 = .ok (.iload_n 1, 1) := by decide +kernel
theorem dX4_reason_3 : decode cX4_reason 3 = .ok (.invokevirtual 96, 3) := by decide +kernel
theorem dX4_reason_6 : decode cX4_reason 6 = .ok (.ifCond .eq 14, 3) := by decide +kernel
theorem dX4_reason_9 : decode cX4_reason 9 = .ok (.iload_n 2, 1) := by decide +kernel
theorem dX4_reason_10 : decode cX4_reason 10 = .ok (.invokestatic 86, 3) := by decide +kernel
theorem dX4_reason_13 : decode cX4_reason 13 = .ok (.ifCond .eq 7, 3) := by decide +kernel
theorem dX4_reason_16 : decode cX4_reason 16 = .ok (.iconst 0, 1) := by decide +kernel
theorem dX4_reason_17 : decode cX4_reason 17 = .ok (.goto 4, 3) := by decide +kernel
theorem dX4_reason_20 : decode cX4_reason 20 = .ok (.iconst 1, 1) := by decide +kernel
theorem dX4_reason_21 : decode cX4_reason 21 = .ok (.invokevirtual 90, 3) := by decide +kernel
theorem dX4_reason_24 : decode cX4_reason 24 = .ok (.ifCond .ne 5, 3) := by decide +kernel
theorem dX4_reason_27 : decode cX4_reason 27 = .ok (.iconst 0, 1) := by decide +kernel
theorem dX4_reason_28 : decode cX4_reason 28 = .ok (.ireturn, 1) := by decide +kernel
theorem dX4_reason_29 : decode cX4_reason 29 = .ok (.aload_n 0, 1) := by decide +kernel
theorem dX4_reason_30 : decode cX4_reason 30 = .ok (.iconst 0, 1) := by decide +kernel
theorem dX4_reason_31 : decode cX4_reason 31 = .ok (.iload_n 1, 1) := by decide +kernel
theorem dX4_reason_32 : decode cX4_reason 32 = .ok (.iload_n 2, 1) := by decide +kernel
theorem dX4_reason_33 : decode cX4_reason 33 = .ok (.invokevirtual 28, 3) := by decide +kernel
theorem dX4_reason_36 : decode cX4_reason 36 = .ok (.ifCond .ne 5, 3) := by decide +kernel
theorem dX4_reason_39 : decode cX4_reason 39 = .ok (.iconst 1, 1) := by decide +kernel
theorem dX4_reason_40 : decode cX4_reason 40 = .ok (.ireturn, 1) := by decide +kernel
theorem dX4_reason_41 : decode cX4_reason 41 = .ok (.aload_n 0, 1) := by decide +kernel
theorem dX4_reason_42 : decode cX4_reason 42 = .ok (.iconst 0, 1) := by decide +kernel
theorem dX4_reason_43 : decode cX4_reason 43 = .ok (.iload_n 2, 1) := by decide +kernel
theorem dX4_reason_44 : decode cX4_reason 44 = .ok (.invokevirtual 58, 3) := by decide +kernel
theorem dX4_reason_47 : decode cX4_reason 47 = .ok (.ifCond .ne 5, 3) := by decide +kernel
theorem dX4_reason_50 : decode cX4_reason 50 = .ok (.iconst 2, 1) := by decide +kernel
theorem dX4_reason_51 : decode cX4_reason 51 = .ok (.ireturn, 1) := by decide +kernel
theorem dX4_reason_52 : decode cX4_reason 52 = .ok (.aload_n 0, 1) := by decide +kernel
theorem dX4_reason_53 : decode cX4_reason 53 = .ok (.iconst 0, 1) := by decide +kernel
theorem dX4_reason_54 : decode cX4_reason 54 = .ok (.iload_n 1, 1) := by decide +kernel
theorem dX4_reason_55 : decode cX4_reason 55 = .ok (.iload_n 2, 1) := by decide +kernel
theorem dX4_reason_56 : decode cX4_reason 56 = .ok (.invokevirtual 35, 3) := by decide +kernel
theorem dX4_reason_59 : decode cX4_reason 59 = .ok (.ifCond .eq 7, 3) := by decide +kernel
theorem dX4_reason_62 : decode cX4_reason 62 = .ok (.iconst 3, 1) := by decide +kernel
theorem dX4_reason_63 : decode cX4_reason 63 = .ok (.goto 18, 3) := by decide +kernel
theorem dX4_reason_66 : decode cX4_reason 66 = .ok (.aload_n 0, 1) := by decide +kernel
theorem dX4_reason_67 : decode cX4_reason 67 = .ok (.iconst 0, 1) := by decide +kernel
theorem dX4_reason_68 : decode cX4_reason 68 = .ok (.iload_n 1, 1) := by decide +kernel
theorem dX4_reason_69 : decode cX4_reason 69 = .ok (.iload_n 2, 1) := by decide +kernel
theorem dX4_reason_70 : decode cX4_reason 70 = .ok (.invokevirtual 42, 3) := by decide +kernel
theorem dX4_reason_73 : decode cX4_reason 73 = .ok (.ifCond .eq 7, 3) := by decide +kernel
theorem dX4_reason_76 : decode cX4_reason 76 = .ok (.iconst 4, 1) := by decide +kernel
theorem dX4_reason_77 : decode cX4_reason 77 = .ok (.goto 4, 3) := by decide +kernel
theorem dX4_reason_80 : decode cX4_reason 80 = .ok (.iconst 0, 1) := by decide +kernel
theorem dX4_reason_81 : decode cX4_reason 81 = .ok (.ireturn, 1) := by decide +kernel
theorem dX4_helper_0 : decode cX4_helper 0 = .ok (.aload_n 0, 1) := by decide +kernel
theorem dX4_helper_1 : decode cX4_helper 1 = .ok (.aload_n 0, 1) := by decide +kernel
theorem dX4_helper_2 : decode cX4_helper 2 = .ok (.iload_n 1, 1) := by decide +kernel
theorem dX4_helper_3 : decode cX4_helper 3 = .ok (.invokevirtual 96, 3) := by decide +kernel
theorem dX4_helper_6 : decode cX4_helper 6 = .ok (.ifCond .eq 14, 3) := by decide +kernel
theorem dX4_helper_9 : decode cX4_helper 9 = .ok (.iload_n 2, 1) := by decide +kernel
theorem dX4_helper_10 : decode cX4_helper 10 = .ok (.invokestatic 86, 3) := by decide +kernel
theorem dX4_helper_13 : decode cX4_helper 13 = .ok (.ifCond .eq 7, 3) := by decide +kernel
theorem dX4_helper_16 : decode cX4_helper 16 = .ok (.iconst 0, 1) := by decide +kernel
theorem dX4_helper_17 : decode cX4_helper 17 = .ok (.goto 4, 3) := by decide +kernel
theorem dX4_helper_20 : decode cX4_helper 20 = .ok (.iconst 1, 1) := by decide +kernel
theorem dX4_helper_21 : decode cX4_helper 21 = .ok (.invokevirtual 90, 3) := by decide +kernel
theorem dX4_helper_24 : decode cX4_helper 24 = .ok (.ifCond .eq 12, 3) := by decide +kernel
theorem dX4_helper_27 : decode cX4_helper 27 = .ok (.aload_n 0, 1) := by decide +kernel
theorem dX4_helper_28 : decode cX4_helper 28 = .ok (.iload_n 1, 1) := by decide +kernel
theorem dX4_helper_29 : decode cX4_helper 29 = .ok (.iload_n 2, 1) := by decide +kernel
theorem dX4_helper_30 : decode cX4_helper 30 = .ok (.invokevirtual 134, 3) := by decide +kernel
theorem dX4_helper_33 : decode cX4_helper 33 = .ok (.goto 4, 3) := by decide +kernel
theorem dX4_helper_36 : decode cX4_helper 36 = .ok (.iconst 0, 1) := by decide +kernel
theorem dX4_helper_37 : decode cX4_helper 37 = .ok (.ireturn, 1) := by decide +kernel
theorem dX4_ticksToEnd_0 : decode cX4_ticksToEnd 0 = .ok (.aload_n 0, 1) := by decide +kernel
theorem dX4_ticksToEnd_1 : decode cX4_ticksToEnd 1 = .ok (.aload_n 0, 1) := by decide +kernel
theorem dX4_ticksToEnd_2 : decode cX4_ticksToEnd 2 = .ok (.iload_n 1, 1) := by decide +kernel
theorem dX4_ticksToEnd_3 : decode cX4_ticksToEnd 3 = .ok (.invokevirtual 96, 3) := by decide +kernel
theorem dX4_ticksToEnd_6 : decode cX4_ticksToEnd 6 = .ok (.ifCond .eq 14, 3) := by decide +kernel
theorem dX4_ticksToEnd_9 : decode cX4_ticksToEnd 9 = .ok (.iload_n 2, 1) := by decide +kernel
theorem dX4_ticksToEnd_10 : decode cX4_ticksToEnd 10 = .ok (.invokestatic 86, 3) := by decide +kernel
theorem dX4_ticksToEnd_13 : decode cX4_ticksToEnd 13 = .ok (.ifCond .eq 7, 3) := by decide +kernel
theorem dX4_ticksToEnd_16 : decode cX4_ticksToEnd 16 = .ok (.iconst 0, 1) := by decide +kernel
theorem dX4_ticksToEnd_17 : decode cX4_ticksToEnd 17 = .ok (.goto 4, 3) := by decide +kernel
theorem dX4_ticksToEnd_20 : decode cX4_ticksToEnd 20 = .ok (.iconst 1, 1) := by decide +kernel
theorem dX4_ticksToEnd_21 : decode cX4_ticksToEnd 21 = .ok (.invokevirtual 90, 3) := by decide +kernel
theorem dX4_ticksToEnd_24 : decode cX4_ticksToEnd 24 = .ok (.ifCond .ne 5, 3) := by decide +kernel
theorem dX4_ticksToEnd_27 : decode cX4_ticksToEnd 27 = .ok (.iconst 0, 1) := by decide +kernel
theorem dX4_ticksToEnd_28 : decode cX4_ticksToEnd 28 = .ok (.ireturn, 1) := by decide +kernel
theorem dX4_ticksToEnd_29 : decode cX4_ticksToEnd 29 = .ok (.aload_n 0, 1) := by decide +kernel
theorem dX4_ticksToEnd_30 : decode cX4_ticksToEnd 30 = .ok (.iconst 0, 1) := by decide +kernel
theorem dX4_ticksToEnd_31 : decode cX4_ticksToEnd 31 = .ok (.iload_n 1, 1) := by decide +kernel
theorem dX4_ticksToEnd_32 : decode cX4_ticksToEnd 32 = .ok (.iload_n 2, 1) := by decide +kernel
theorem dX4_ticksToEnd_33 : decode cX4_ticksToEnd 33 = .ok (.invokevirtual 28, 3) := by decide +kernel
theorem dX4_ticksToEnd_36 : decode cX4_ticksToEnd 36 = .ok (.ifCond .ne 5, 3) := by decide +kernel
theorem dX4_ticksToEnd_39 : decode cX4_ticksToEnd 39 = .ok (.iconst (-1), 1) := by decide +kernel
theorem dX4_ticksToEnd_40 : decode cX4_ticksToEnd 40 = .ok (.ireturn, 1) := by decide +kernel
theorem dX4_ticksToEnd_41 : decode cX4_ticksToEnd 41 = .ok (.aload_n 0, 1) := by decide +kernel
theorem dX4_ticksToEnd_42 : decode cX4_ticksToEnd 42 = .ok (.iconst 0, 1) := by decide +kernel
theorem dX4_ticksToEnd_43 : decode cX4_ticksToEnd 43 = .ok (.bipush 7, 2) := by decide +kernel
theorem dX4_ticksToEnd_45 : decode cX4_ticksToEnd 45 = .ok (.invokevirtual 79, 3) := by decide +kernel
theorem dX4_ticksToEnd_48 : decode cX4_ticksToEnd 48 = .ok (.iconst 0, 1) := by decide +kernel
theorem dX4_ticksToEnd_49 : decode cX4_ticksToEnd 49 = .ok (.istore_n 3, 1) := by decide +kernel
theorem dX4_ticksToEnd_50 : decode cX4_ticksToEnd 50 = .ok (.iload_n 3, 1) := by decide +kernel
theorem dX4_ticksToEnd_51 : decode cX4_ticksToEnd 51 = .ok (.bipush 40, 2) := by decide +kernel
theorem dX4_ticksToEnd_53 : decode cX4_ticksToEnd 53 = .ok (.if_icmp .gt 31, 3) := by decide +kernel
theorem dX4_ticksToEnd_56 : decode cX4_ticksToEnd 56 = .ok (.aload_n 0, 1) := by decide +kernel
theorem dX4_ticksToEnd_57 : decode cX4_ticksToEnd 57 = .ok (.sipush 1974, 3) := by decide +kernel
theorem dX4_ticksToEnd_60 : decode cX4_ticksToEnd 60 = .ok (.iload_n 1, 1) := by decide +kernel
theorem dX4_ticksToEnd_61 : decode cX4_ticksToEnd 61 = .ok (.iload_n 2, 1) := by decide +kernel
theorem dX4_ticksToEnd_62 : decode cX4_ticksToEnd 62 = .ok (.invokevirtual 35, 3) := by decide +kernel
theorem dX4_ticksToEnd_65 : decode cX4_ticksToEnd 65 = .ok (.iconst 2, 1) := by decide +kernel
theorem dX4_ticksToEnd_66 : decode cX4_ticksToEnd 66 = .ok (.if_icmp .lt 5, 3) := by decide +kernel
theorem dX4_ticksToEnd_69 : decode cX4_ticksToEnd 69 = .ok (.iload_n 3, 1) := by decide +kernel
theorem dX4_ticksToEnd_70 : decode cX4_ticksToEnd 70 = .ok (.ireturn, 1) := by decide +kernel
theorem dX4_ticksToEnd_71 : decode cX4_ticksToEnd 71 = .ok (.aload_n 0, 1) := by decide +kernel
theorem dX4_ticksToEnd_72 : decode cX4_ticksToEnd 72 = .ok (.sipush 1974, 3) := by decide +kernel
theorem dX4_ticksToEnd_75 : decode cX4_ticksToEnd 75 = .ok (.invokevirtual 72, 3) := by decide +kernel
theorem dX4_ticksToEnd_78 : decode cX4_ticksToEnd 78 = .ok (.iinc 3 1, 3) := by decide +kernel
theorem dX4_ticksToEnd_81 : decode cX4_ticksToEnd 81 = .ok (.goto (-31), 3) := by decide +kernel
theorem dX4_ticksToEnd_84 : decode cX4_ticksToEnd 84 = .ok (.iconst (-1), 1) := by decide +kernel
theorem dX4_ticksToEnd_85 : decode cX4_ticksToEnd 85 = .ok (.ireturn, 1) := by decide +kernel
theorem dX4_append_0 : decode cX4_append 0 = .ok (.aload_n 0, 1) := by decide +kernel
theorem dX4_append_1 : decode cX4_append 1 = .ok (.iload_n 1, 1) := by decide +kernel
theorem dX4_append_2 : decode cX4_append 2 = .ok (.bipush 33, 2) := by decide +kernel
theorem dX4_append_4 : decode cX4_append 4 = .ok (.bipush 126, 2) := by decide +kernel
theorem dX4_append_6 : decode cX4_append 6 = .ok (.invokestatic 20, 3) := by decide +kernel
theorem dX4_append_9 : decode cX4_append 9 = .ok (.ifCond .ne 7, 3) := by decide +kernel
theorem dX4_append_12 : decode cX4_append 12 = .ok (.iconst 1, 1) := by decide +kernel
theorem dX4_append_13 : decode cX4_append 13 = .ok (.goto 17, 3) := by decide +kernel
theorem dX4_append_16 : decode cX4_append 16 = .ok (.aload_n 0, 1) := by decide +kernel
theorem dX4_append_17 : decode cX4_append 17 = .ok (.getfield 140, 3) := by decide +kernel
theorem dX4_append_20 : decode cX4_append 20 = .ok (.bipush 60, 2) := by decide +kernel
theorem dX4_append_22 : decode cX4_append 22 = .ok (.if_icmp .ne 7, 3) := by decide +kernel
theorem dX4_append_25 : decode cX4_append 25 = .ok (.iconst 2, 1) := by decide +kernel
theorem dX4_append_26 : decode cX4_append 26 = .ok (.goto 4, 3) := by decide +kernel
theorem dX4_append_29 : decode cX4_append 29 = .ok (.iconst 0, 1) := by decide +kernel
theorem dX4_append_30 : decode cX4_append 30 = .ok (.invokevirtual 90, 3) := by decide +kernel
theorem dX4_append_33 : decode cX4_append 33 = .ok (.ifCond .ne 5, 3) := by decide +kernel
theorem dX4_append_36 : decode cX4_append 36 = .ok (.iconst 0, 1) := by decide +kernel
theorem dX4_append_37 : decode cX4_append 37 = .ok (.ireturn, 1) := by decide +kernel
theorem dX4_append_38 : decode cX4_append 38 = .ok (.aload_n 0, 1) := by decide +kernel
theorem dX4_append_39 : decode cX4_append 39 = .ok (.getfield 13, 3) := by decide +kernel
theorem dX4_append_42 : decode cX4_append 42 = .ok (.aload_n 0, 1) := by decide +kernel
theorem dX4_append_43 : decode cX4_append 43 = .ok (.getfield 140, 3) := by decide +kernel
theorem dX4_append_46 : decode cX4_append 46 = .ok (.iload_n 1, 1) := by decide +kernel
theorem dX4_append_47 : decode cX4_append 47 = .ok (.iastore, 1) := by decide +kernel
theorem dX4_append_48 : decode cX4_append 48 = .ok (.aload_n 0, 1) := by decide +kernel
theorem dX4_append_49 : decode cX4_append 49 = .ok (.dup, 1) := by decide +kernel
theorem dX4_append_50 : decode cX4_append 50 = .ok (.getfield 140, 3) := by decide +kernel
theorem dX4_append_53 : decode cX4_append 53 = .ok (.iconst 1, 1) := by decide +kernel
theorem dX4_append_54 : decode cX4_append 54 = .ok (.iadd, 1) := by decide +kernel
theorem dX4_append_55 : decode cX4_append 55 = .ok (.putfield 140, 3) := by decide +kernel
theorem dX4_append_58 : decode cX4_append 58 = .ok (.aload_n 0, 1) := by decide +kernel
theorem dX4_append_59 : decode cX4_append 59 = .ok (.getfield 140, 3) := by decide +kernel
theorem dX4_append_62 : decode cX4_append 62 = .ok (.ireturn, 1) := by decide +kernel
theorem dX4_clearText_0 : decode cX4_clearText 0 = .ok (.aload_n 0, 1) := by decide +kernel
theorem dX4_clearText_1 : decode cX4_clearText 1 = .ok (.iconst 0, 1) := by decide +kernel
theorem dX4_clearText_2 : decode cX4_clearText 2 = .ok (.putfield 16, 3) := by decide +kernel
theorem dX4_clearText_5 : decode cX4_clearText 5 = .ok (.aload_n 0, 1) := by decide +kernel
theorem dX4_clearText_6 : decode cX4_clearText 6 = .ok (.getfield 140, 3) := by decide +kernel
theorem dX4_clearText_9 : decode cX4_clearText 9 = .ok (.istore_n 1, 1) := by decide +kernel
theorem dX4_clearText_10 : decode cX4_clearText 10 = .ok (.aload_n 0, 1) := by decide +kernel
theorem dX4_clearText_11 : decode cX4_clearText 11 = .ok (.iconst 0, 1) := by decide +kernel
theorem dX4_clearText_12 : decode cX4_clearText 12 = .ok (.putfield 140, 3) := by decide +kernel
theorem dX4_clearText_15 : decode cX4_clearText 15 = .ok (.iload_n 1, 1) := by decide +kernel
theorem dX4_clearText_16 : decode cX4_clearText 16 = .ok (.ireturn, 1) := by decide +kernel
theorem dX4_sign_0 : decode cX4_sign 0 = .ok (.aload_n 0, 1) := by decide +kernel
theorem dX4_sign_1 : decode cX4_sign 1 = .ok (.getfield 143, 3) := by decide +kernel
theorem dX4_sign_4 : decode cX4_sign 4 = .ok (.aload_n 0, 1) := by decide +kernel
theorem dX4_sign_5 : decode cX4_sign 5 = .ok (.getfield 140, 3) := by decide +kernel
theorem dX4_sign_8 : decode cX4_sign 8 = .ok (.if_icmp .ge 15, 3) := by decide +kernel
theorem dX4_sign_11 : decode cX4_sign 11 = .ok (.aload_n 0, 1) := by decide +kernel
theorem dX4_sign_12 : decode cX4_sign 12 = .ok (.getfield 13, 3) := by decide +kernel
theorem dX4_sign_15 : decode cX4_sign 15 = .ok (.aload_n 0, 1) := by decide +kernel
theorem dX4_sign_16 : decode cX4_sign 16 = .ok (.getfield 143, 3) := by decide +kernel
theorem dX4_sign_19 : decode cX4_sign 19 = .ok (.iaload, 1) := by decide +kernel
theorem dX4_sign_20 : decode cX4_sign 20 = .ok (.goto 4, 3) := by decide +kernel
theorem dX4_sign_23 : decode cX4_sign 23 = .ok (.iconst 0, 1) := by decide +kernel
theorem dX4_sign_24 : decode cX4_sign 24 = .ok (.ireturn, 1) := by decide +kernel
theorem dX4_takes_0 : decode cX4_takes 0 = .ok (.aload_n 0, 1) := by decide +kernel
theorem dX4_takes_1 : decode cX4_takes 1 = .ok (.invokevirtual 146, 3) := by decide +kernel
theorem dX4_takes_4 : decode cX4_takes 4 = .ok (.iload_n 1, 1) := by decide +kernel
theorem dX4_takes_5 : decode cX4_takes 5 = .ok (.if_icmp .ne 7, 3) := by decide +kernel
theorem dX4_takes_8 : decode cX4_takes 8 = .ok (.iconst 1, 1) := by decide +kernel
theorem dX4_takes_9 : decode cX4_takes 9 = .ok (.goto 4, 3) := by decide +kernel
theorem dX4_takes_12 : decode cX4_takes 12 = .ok (.iconst 0, 1) := by decide +kernel
theorem dX4_takes_13 : decode cX4_takes 13 = .ok (.istore_n 2, 1) := by decide +kernel
theorem dX4_takes_14 : decode cX4_takes 14 = .ok (.aload_n 0, 1) := by decide +kernel
theorem dX4_takes_15 : decode cX4_takes 15 = .ok (.dup, 1) := by decide +kernel
theorem dX4_takes_16 : decode cX4_takes 16 = .ok (.getfield 143, 3) := by decide +kernel
theorem dX4_takes_19 : decode cX4_takes 19 = .ok (.iload_n 2, 1) := by decide +kernel
theorem dX4_takes_20 : decode cX4_takes 20 = .ok (.ifCond .eq 7, 3) := by decide +kernel
theorem dX4_takes_23 : decode cX4_takes 23 = .ok (.iconst 1, 1) := by decide +kernel
theorem dX4_takes_24 : decode cX4_takes 24 = .ok (.goto 4, 3) := by decide +kernel
theorem dX4_takes_27 : decode cX4_takes 27 = .ok (.iconst 0, 1) := by decide +kernel
theorem dX4_takes_28 : decode cX4_takes 28 = .ok (.iadd, 1) := by decide +kernel
theorem dX4_takes_29 : decode cX4_takes 29 = .ok (.putfield 143, 3) := by decide +kernel
theorem dX4_takes_32 : decode cX4_takes 32 = .ok (.iload_n 2, 1) := by decide +kernel
theorem dX4_takes_33 : decode cX4_takes 33 = .ok (.ireturn, 1) := by decide +kernel
theorem dX4_digit_0 : decode cX4_digit 0 = .ok (.aload_n 0, 1) := by decide +kernel
theorem dX4_digit_1 : decode cX4_digit 1 = .ok (.invokevirtual 146, 3) := by decide +kernel
theorem dX4_digit_4 : decode cX4_digit 4 = .ok (.bipush 48, 2) := by decide +kernel
theorem dX4_digit_6 : decode cX4_digit 6 = .ok (.bipush 48, 2) := by decide +kernel
theorem dX4_digit_8 : decode cX4_digit 8 = .ok (.iload_n 1, 1) := by decide +kernel
theorem dX4_digit_9 : decode cX4_digit 9 = .ok (.iadd, 1) := by decide +kernel
theorem dX4_digit_10 : decode cX4_digit 10 = .ok (.invokestatic 20, 3) := by decide +kernel
theorem dX4_digit_13 : decode cX4_digit 13 = .ok (.ifCond .eq 13, 3) := by decide +kernel
theorem dX4_digit_16 : decode cX4_digit 16 = .ok (.aload_n 0, 1) := by decide +kernel
theorem dX4_digit_17 : decode cX4_digit 17 = .ok (.invokevirtual 146, 3) := by decide +kernel
theorem dX4_digit_20 : decode cX4_digit 20 = .ok (.bipush 48, 2) := by decide +kernel
theorem dX4_digit_22 : decode cX4_digit 22 = .ok (.isub, 1) := by decide +kernel
theorem dX4_digit_23 : decode cX4_digit 23 = .ok (.goto 4, 3) := by decide +kernel
theorem dX4_digit_26 : decode cX4_digit 26 = .ok (.iconst (-1), 1) := by decide +kernel
theorem dX4_digit_27 : decode cX4_digit 27 = .ok (.istore_n 2, 1) := by decide +kernel
theorem dX4_digit_28 : decode cX4_digit 28 = .ok (.aload_n 0, 1) := by decide +kernel
theorem dX4_digit_29 : decode cX4_digit 29 = .ok (.dup, 1) := by decide +kernel
theorem dX4_digit_30 : decode cX4_digit 30 = .ok (.getfield 143, 3) := by decide +kernel
theorem dX4_digit_33 : decode cX4_digit 33 = .ok (.iload_n 2, 1) := by decide +kernel
theorem dX4_digit_34 : decode cX4_digit 34 = .ok (.iconst (-1), 1) := by decide +kernel
theorem dX4_digit_35 : decode cX4_digit 35 = .ok (.if_icmp .ne 7, 3) := by decide +kernel
theorem dX4_digit_38 : decode cX4_digit 38 = .ok (.iconst 0, 1) := by decide +kernel
theorem dX4_digit_39 : decode cX4_digit 39 = .ok (.goto 4, 3) := by decide +kernel
theorem dX4_digit_42 : decode cX4_digit 42 = .ok (.iconst 1, 1) := by decide +kernel
theorem dX4_digit_43 : decode cX4_digit 43 = .ok (.iadd, 1) := by decide +kernel
theorem dX4_digit_44 : decode cX4_digit 44 = .ok (.putfield 143, 3) := by decide +kernel
theorem dX4_digit_47 : decode cX4_digit 47 = .ok (.iload_n 2, 1) := by decide +kernel
theorem dX4_digit_48 : decode cX4_digit 48 = .ok (.ireturn, 1) := by decide +kernel
theorem dX4_readsTicks_0 : decode cX4_readsTicks 0 = .ok (.aload_n 0, 1) := by decide +kernel
theorem dX4_readsTicks_1 : decode cX4_readsTicks 1 = .ok (.invokevirtual 146, 3) := by decide +kernel
theorem dX4_readsTicks_4 : decode cX4_readsTicks 4 = .ok (.bipush 49, 2) := by decide +kernel
theorem dX4_readsTicks_6 : decode cX4_readsTicks 6 = .ok (.bipush 57, 2) := by decide +kernel
theorem dX4_readsTicks_8 : decode cX4_readsTicks 8 = .ok (.invokestatic 20, 3) := by decide +kernel
theorem dX4_readsTicks_11 : decode cX4_readsTicks 11 = .ok (.ifCond .ne 5, 3) := by decide +kernel
theorem dX4_readsTicks_14 : decode cX4_readsTicks 14 = .ok (.iconst 0, 1) := by decide +kernel
theorem dX4_readsTicks_15 : decode cX4_readsTicks 15 = .ok (.ireturn, 1) := by decide +kernel
theorem dX4_readsTicks_16 : decode cX4_readsTicks 16 = .ok (.aload_n 0, 1) := by decide +kernel
theorem dX4_readsTicks_17 : decode cX4_readsTicks 17 = .ok (.aload_n 0, 1) := by decide +kernel
theorem dX4_readsTicks_18 : decode cX4_readsTicks 18 = .ok (.bipush 9, 2) := by decide +kernel
theorem dX4_readsTicks_20 : decode cX4_readsTicks 20 = .ok (.invokevirtual 149, 3) := by decide +kernel
theorem dX4_readsTicks_23 : decode cX4_readsTicks 23 = .ok (.putfield 152, 3) := by decide +kernel
theorem dX4_readsTicks_26 : decode cX4_readsTicks 26 = .ok (.aload_n 0, 1) := by decide +kernel
theorem dX4_readsTicks_27 : decode cX4_readsTicks 27 = .ok (.invokevirtual 146, 3) := by decide +kernel
theorem dX4_readsTicks_30 : decode cX4_readsTicks 30 = .ok (.bipush 48, 2) := by decide +kernel
theorem dX4_readsTicks_32 : decode cX4_readsTicks 32 = .ok (.bipush 57, 2) := by decide +kernel
theorem dX4_readsTicks_34 : decode cX4_readsTicks 34 = .ok (.invokestatic 20, 3) := by decide +kernel
theorem dX4_readsTicks_37 : decode cX4_readsTicks 37 = .ok (.ifCond .eq 41, 3) := by decide +kernel
theorem dX4_readsTicks_40 : decode cX4_readsTicks 40 = .ok (.bipush 10, 2) := by decide +kernel
theorem dX4_readsTicks_42 : decode cX4_readsTicks 42 = .ok (.aload_n 0, 1) := by decide +kernel
theorem dX4_readsTicks_43 : decode cX4_readsTicks 43 = .ok (.getfield 152, 3) := by decide +kernel
theorem dX4_readsTicks_46 : decode cX4_readsTicks 46 = .ok (.imul, 1) := by decide +kernel
theorem dX4_readsTicks_47 : decode cX4_readsTicks 47 = .ok (.aload_n 0, 1) := by decide +kernel
theorem dX4_readsTicks_48 : decode cX4_readsTicks 48 = .ok (.invokevirtual 146, 3) := by decide +kernel
theorem dX4_readsTicks_51 : decode cX4_readsTicks 51 = .ok (.iadd, 1) := by decide +kernel
theorem dX4_readsTicks_52 : decode cX4_readsTicks 52 = .ok (.bipush 48, 2) := by decide +kernel
theorem dX4_readsTicks_54 : decode cX4_readsTicks 54 = .ok (.isub, 1) := by decide +kernel
theorem dX4_readsTicks_55 : decode cX4_readsTicks 55 = .ok (.bipush 20, 2) := by decide +kernel
theorem dX4_readsTicks_57 : decode cX4_readsTicks 57 = .ok (.if_icmp .gt 21, 3) := by decide +kernel
theorem dX4_readsTicks_60 : decode cX4_readsTicks 60 = .ok (.aload_n 0, 1) := by decide +kernel
theorem dX4_readsTicks_61 : decode cX4_readsTicks 61 = .ok (.bipush 10, 2) := by decide +kernel
theorem dX4_readsTicks_63 : decode cX4_readsTicks 63 = .ok (.aload_n 0, 1) := by decide +kernel
theorem dX4_readsTicks_64 : decode cX4_readsTicks 64 = .ok (.getfield 152, 3) := by decide +kernel
theorem dX4_readsTicks_67 : decode cX4_readsTicks 67 = .ok (.imul, 1) := by decide +kernel
theorem dX4_readsTicks_68 : decode cX4_readsTicks 68 = .ok (.aload_n 0, 1) := by decide +kernel
theorem dX4_readsTicks_69 : decode cX4_readsTicks 69 = .ok (.bipush 9, 2) := by decide +kernel
theorem dX4_readsTicks_71 : decode cX4_readsTicks 71 = .ok (.invokevirtual 149, 3) := by decide +kernel
theorem dX4_readsTicks_74 : decode cX4_readsTicks 74 = .ok (.iadd, 1) := by decide +kernel
theorem dX4_readsTicks_75 : decode cX4_readsTicks 75 = .ok (.putfield 152, 3) := by decide +kernel
theorem dX4_readsTicks_78 : decode cX4_readsTicks 78 = .ok (.iconst 1, 1) := by decide +kernel
theorem dX4_readsTicks_79 : decode cX4_readsTicks 79 = .ok (.ireturn, 1) := by decide +kernel
theorem dX4_readsAction_0 : decode cX4_readsAction 0 = .ok (.aload_n 0, 1) := by decide +kernel
theorem dX4_readsAction_1 : decode cX4_readsAction 1 = .ok (.aload_n 0, 1) := by decide +kernel
theorem dX4_readsAction_2 : decode cX4_readsAction 2 = .ok (.invokevirtual 146, 3) := by decide +kernel
theorem dX4_readsAction_5 : decode cX4_readsAction 5 = .ok (.putfield 155, 3) := by decide +kernel
theorem dX4_readsAction_8 : decode cX4_readsAction 8 = .ok (.aload_n 0, 1) := by decide +kernel
theorem dX4_readsAction_9 : decode cX4_readsAction 9 = .ok (.bipush 116, 2) := by decide +kernel
theorem dX4_readsAction_11 : decode cX4_readsAction 11 = .ok (.invokevirtual 158, 3) := by decide +kernel
theorem dX4_readsAction_14 : decode cX4_readsAction 14 = .ok (.ifCond .eq 8, 3) := by decide +kernel
theorem dX4_readsAction_17 : decode cX4_readsAction 17 = .ok (.aload_n 0, 1) := by decide +kernel
theorem dX4_readsAction_18 : decode cX4_readsAction 18 = .ok (.invokevirtual 161, 3) := by decide +kernel
theorem dX4_readsAction_21 : decode cX4_readsAction 21 = .ok (.ireturn, 1) := by decide +kernel
theorem dX4_readsAction_22 : decode cX4_readsAction 22 = .ok (.aload_n 0, 1) := by decide +kernel
theorem dX4_readsAction_23 : decode cX4_readsAction 23 = .ok (.bipush 120, 2) := by decide +kernel
theorem dX4_readsAction_25 : decode cX4_readsAction 25 = .ok (.invokevirtual 158, 3) := by decide +kernel
theorem dX4_readsAction_28 : decode cX4_readsAction 28 = .ok (.ifCond .ne 12, 3) := by decide +kernel
theorem dX4_readsAction_31 : decode cX4_readsAction 31 = .ok (.aload_n 0, 1) := by decide +kernel
theorem dX4_readsAction_32 : decode cX4_readsAction 32 = .ok (.bipush 117, 2) := by decide +kernel
theorem dX4_readsAction_34 : decode cX4_readsAction 34 = .ok (.invokevirtual 158, 3) := by decide +kernel
theorem dX4_readsAction_37 : decode cX4_readsAction 37 = .ok (.ifCond .eq 26, 3) := by decide +kernel
theorem dX4_readsAction_40 : decode cX4_readsAction 40 = .ok (.aload_n 0, 1) := by decide +kernel
theorem dX4_readsAction_41 : decode cX4_readsAction 41 = .ok (.aload_n 0, 1) := by decide +kernel
theorem dX4_readsAction_42 : decode cX4_readsAction 42 = .ok (.iconst 5, 1) := by decide +kernel
theorem dX4_readsAction_43 : decode cX4_readsAction 43 = .ok (.invokevirtual 149, 3) := by decide +kernel
theorem dX4_readsAction_46 : decode cX4_readsAction 46 = .ok (.putfield 152, 3) := by decide +kernel
theorem dX4_readsAction_49 : decode cX4_readsAction 49 = .ok (.aload_n 0, 1) := by decide +kernel
theorem dX4_readsAction_50 : decode cX4_readsAction 50 = .ok (.getfield 152, 3) := by decide +kernel
theorem dX4_readsAction_53 : decode cX4_readsAction 53 = .ok (.iconst (-1), 1) := by decide +kernel
theorem dX4_readsAction_54 : decode cX4_readsAction 54 = .ok (.if_icmp .eq 7, 3) := by decide +kernel
theorem dX4_readsAction_57 : decode cX4_readsAction 57 = .ok (.iconst 1, 1) := by decide +kernel
theorem dX4_readsAction_58 : decode cX4_readsAction 58 = .ok (.goto 4, 3) := by decide +kernel
theorem dX4_readsAction_61 : decode cX4_readsAction 61 = .ok (.iconst 0, 1) := by decide +kernel
theorem dX4_readsAction_62 : decode cX4_readsAction 62 = .ok (.ireturn, 1) := by decide +kernel
theorem dX4_readsAction_63 : decode cX4_readsAction 63 = .ok (.aload_n 0, 1) := by decide +kernel
theorem dX4_readsAction_64 : decode cX4_readsAction 64 = .ok (.bipush 121, 2) := by decide +kernel
theorem dX4_readsAction_66 : decode cX4_readsAction 66 = .ok (.invokevirtual 158, 3) := by decide +kernel
theorem dX4_readsAction_69 : decode cX4_readsAction 69 = .ok (.ifCond .ne 41, 3) := by decide +kernel
theorem dX4_readsAction_72 : decode cX4_readsAction 72 = .ok (.aload_n 0, 1) := by decide +kernel
theorem dX4_readsAction_73 : decode cX4_readsAction 73 = .ok (.bipush 110, 2) := by decide +kernel
theorem dX4_readsAction_75 : decode cX4_readsAction 75 = .ok (.invokevirtual 158, 3) := by decide +kernel
theorem dX4_readsAction_78 : decode cX4_readsAction 78 = .ok (.ifCond .ne 32, 3) := by decide +kernel
theorem dX4_readsAction_81 : decode cX4_readsAction 81 = .ok (.aload_n 0, 1) := by decide +kernel
theorem dX4_readsAction_82 : decode cX4_readsAction 82 = .ok (.bipush 100, 2) := by decide +kernel
theorem dX4_readsAction_84 : decode cX4_readsAction 84 = .ok (.invokevirtual 158, 3) := by decide +kernel
theorem dX4_readsAction_87 : decode cX4_readsAction 87 = .ok (.ifCond .ne 23, 3) := by decide +kernel
theorem dX4_readsAction_90 : decode cX4_readsAction 90 = .ok (.aload_n 0, 1) := by decide +kernel
theorem dX4_readsAction_91 : decode cX4_readsAction 91 = .ok (.bipush 103, 2) := by decide +kernel
theorem dX4_readsAction_93 : decode cX4_readsAction 93 = .ok (.invokevirtual 158, 3) := by decide +kernel
theorem dX4_readsAction_96 : decode cX4_readsAction 96 = .ok (.ifCond .ne 14, 3) := by decide +kernel
theorem dX4_readsAction_99 : decode cX4_readsAction 99 = .ok (.aload_n 0, 1) := by decide +kernel
theorem dX4_readsAction_100 : decode cX4_readsAction 100 = .ok (.bipush 97, 2) := by decide +kernel
theorem dX4_readsAction_102 : decode cX4_readsAction 102 = .ok (.invokevirtual 158, 3) := by decide +kernel
theorem dX4_readsAction_105 : decode cX4_readsAction 105 = .ok (.ifCond .ne 5, 3) := by decide +kernel
theorem dX4_readsAction_108 : decode cX4_readsAction 108 = .ok (.iconst 0, 1) := by decide +kernel
theorem dX4_readsAction_109 : decode cX4_readsAction 109 = .ok (.ireturn, 1) := by decide +kernel
theorem dX4_readsAction_110 : decode cX4_readsAction 110 = .ok (.aload_n 0, 1) := by decide +kernel
theorem dX4_readsAction_111 : decode cX4_readsAction 111 = .ok (.aload_n 0, 1) := by decide +kernel
theorem dX4_readsAction_112 : decode cX4_readsAction 112 = .ok (.bipush 7, 2) := by decide +kernel
theorem dX4_readsAction_114 : decode cX4_readsAction 114 = .ok (.invokevirtual 149, 3) := by decide +kernel
theorem dX4_readsAction_117 : decode cX4_readsAction 117 = .ok (.putfield 152, 3) := by decide +kernel
theorem dX4_readsAction_120 : decode cX4_readsAction 120 = .ok (.aload_n 0, 1) := by decide +kernel
theorem dX4_readsAction_121 : decode cX4_readsAction 121 = .ok (.getfield 152, 3) := by decide +kernel
theorem dX4_readsAction_124 : decode cX4_readsAction 124 = .ok (.iconst (-1), 1) := by decide +kernel
theorem dX4_readsAction_125 : decode cX4_readsAction 125 = .ok (.if_icmp .eq 12, 3) := by decide +kernel
theorem dX4_readsAction_128 : decode cX4_readsAction 128 = .ok (.aload_n 0, 1) := by decide +kernel
theorem dX4_readsAction_129 : decode cX4_readsAction 129 = .ok (.getfield 155, 3) := by decide +kernel
theorem dX4_readsAction_132 : decode cX4_readsAction 132 = .ok (.bipush 100, 2) := by decide +kernel
theorem dX4_readsAction_134 : decode cX4_readsAction 134 = .ok (.if_icmp .ne 17, 3) := by decide +kernel
theorem dX4_readsAction_137 : decode cX4_readsAction 137 = .ok (.aload_n 0, 1) := by decide +kernel
theorem dX4_readsAction_138 : decode cX4_readsAction 138 = .ok (.getfield 152, 3) := by decide +kernel
theorem dX4_readsAction_141 : decode cX4_readsAction 141 = .ok (.iconst (-1), 1) := by decide +kernel
theorem dX4_readsAction_142 : decode cX4_readsAction 142 = .ok (.if_icmp .eq 7, 3) := by decide +kernel
theorem dX4_readsAction_145 : decode cX4_readsAction 145 = .ok (.iconst 1, 1) := by decide +kernel
theorem dX4_readsAction_146 : decode cX4_readsAction 146 = .ok (.goto 4, 3) := by decide +kernel
theorem dX4_readsAction_149 : decode cX4_readsAction 149 = .ok (.iconst 0, 1) := by decide +kernel
theorem dX4_readsAction_150 : decode cX4_readsAction 150 = .ok (.ireturn, 1) := by decide +kernel
theorem dX4_readsAction_151 : decode cX4_readsAction 151 = .ok (.aload_n 0, 1) := by decide +kernel
theorem dX4_readsAction_152 : decode cX4_readsAction 152 = .ok (.aload_n 0, 1) := by decide +kernel
theorem dX4_readsAction_153 : decode cX4_readsAction 153 = .ok (.iconst 5, 1) := by decide +kernel
theorem dX4_readsAction_154 : decode cX4_readsAction 154 = .ok (.invokevirtual 149, 3) := by decide +kernel
theorem dX4_readsAction_157 : decode cX4_readsAction 157 = .ok (.putfield 165, 3) := by decide +kernel
theorem dX4_readsAction_160 : decode cX4_readsAction 160 = .ok (.aload_n 0, 1) := by decide +kernel
theorem dX4_readsAction_161 : decode cX4_readsAction 161 = .ok (.getfield 165, 3) := by decide +kernel
theorem dX4_readsAction_164 : decode cX4_readsAction 164 = .ok (.iconst (-1), 1) := by decide +kernel
theorem dX4_readsAction_165 : decode cX4_readsAction 165 = .ok (.if_icmp .eq 12, 3) := by decide +kernel
theorem dX4_readsAction_168 : decode cX4_readsAction 168 = .ok (.aload_n 0, 1) := by decide +kernel
theorem dX4_readsAction_169 : decode cX4_readsAction 169 = .ok (.getfield 155, 3) := by decide +kernel
theorem dX4_readsAction_172 : decode cX4_readsAction 172 = .ok (.bipush 97, 2) := by decide +kernel
theorem dX4_readsAction_174 : decode cX4_readsAction 174 = .ok (.if_icmp .eq 17, 3) := by decide +kernel
theorem dX4_readsAction_177 : decode cX4_readsAction 177 = .ok (.aload_n 0, 1) := by decide +kernel
theorem dX4_readsAction_178 : decode cX4_readsAction 178 = .ok (.getfield 165, 3) := by decide +kernel
theorem dX4_readsAction_181 : decode cX4_readsAction 181 = .ok (.iconst (-1), 1) := by decide +kernel
theorem dX4_readsAction_182 : decode cX4_readsAction 182 = .ok (.if_icmp .eq 7, 3) := by decide +kernel
theorem dX4_readsAction_185 : decode cX4_readsAction 185 = .ok (.iconst 1, 1) := by decide +kernel
theorem dX4_readsAction_186 : decode cX4_readsAction 186 = .ok (.goto 4, 3) := by decide +kernel
theorem dX4_readsAction_189 : decode cX4_readsAction 189 = .ok (.iconst 0, 1) := by decide +kernel
theorem dX4_readsAction_190 : decode cX4_readsAction 190 = .ok (.ireturn, 1) := by decide +kernel
theorem dX4_readsAction_191 : decode cX4_readsAction 191 = .ok (.aload_n 0, 1) := by decide +kernel
theorem dX4_readsAction_192 : decode cX4_readsAction 192 = .ok (.aload_n 0, 1) := by decide +kernel
theorem dX4_readsAction_193 : decode cX4_readsAction 193 = .ok (.invokevirtual 146, 3) := by decide +kernel
theorem dX4_readsAction_196 : decode cX4_readsAction 196 = .ok (.bipush 48, 2) := by decide +kernel
theorem dX4_readsAction_198 : decode cX4_readsAction 198 = .ok (.isub, 1) := by decide +kernel
theorem dX4_readsAction_199 : decode cX4_readsAction 199 = .ok (.aload_n 0, 1) := by decide +kernel
theorem dX4_readsAction_200 : decode cX4_readsAction 200 = .ok (.getfield 165, 3) := by decide +kernel
theorem dX4_readsAction_203 : decode cX4_readsAction 203 = .ok (.if_icmp .ne 7, 3) := by decide +kernel
theorem dX4_readsAction_206 : decode cX4_readsAction 206 = .ok (.iconst (-1), 1) := by decide +kernel
theorem dX4_readsAction_207 : decode cX4_readsAction 207 = .ok (.goto 8, 3) := by decide +kernel
theorem dX4_readsAction_210 : decode cX4_readsAction 210 = .ok (.aload_n 0, 1) := by decide +kernel
theorem dX4_readsAction_211 : decode cX4_readsAction 211 = .ok (.iconst 5, 1) := by decide +kernel
theorem dX4_readsAction_212 : decode cX4_readsAction 212 = .ok (.invokevirtual 149, 3) := by decide +kernel
theorem dX4_readsAction_215 : decode cX4_readsAction 215 = .ok (.putfield 168, 3) := by decide +kernel
theorem dX4_readsAction_218 : decode cX4_readsAction 218 = .ok (.aload_n 0, 1) := by decide +kernel
theorem dX4_readsAction_219 : decode cX4_readsAction 219 = .ok (.getfield 168, 3) := by decide +kernel
theorem dX4_readsAction_222 : decode cX4_readsAction 222 = .ok (.iconst (-1), 1) := by decide +kernel
theorem dX4_readsAction_223 : decode cX4_readsAction 223 = .ok (.if_icmp .eq 7, 3) := by decide +kernel
theorem dX4_readsAction_226 : decode cX4_readsAction 226 = .ok (.iconst 1, 1) := by decide +kernel
theorem dX4_readsAction_227 : decode cX4_readsAction 227 = .ok (.goto 4, 3) := by decide +kernel
theorem dX4_readsAction_230 : decode cX4_readsAction 230 = .ok (.iconst 0, 1) := by decide +kernel
theorem dX4_readsAction_231 : decode cX4_readsAction 231 = .ok (.ireturn, 1) := by decide +kernel
theorem dX4_areActions_0 : decode cX4_areActions 0 = .ok (.aload_n 0, 1) := by decide +kernel
theorem dX4_areActions_1 : decode cX4_areActions 1 = .ok (.iconst 0, 1) := by decide +kernel
theorem dX4_areActions_2 : decode cX4_areActions 2 = .ok (.putfield 143, 3) := by decide +kernel
theorem dX4_areActions_5 : decode cX4_areActions 5 = .ok (.aload_n 0, 1) := by decide +kernel
theorem dX4_areActions_6 : decode cX4_areActions 6 = .ok (.invokevirtual 171, 3) := by decide +kernel
theorem dX4_areActions_9 : decode cX4_areActions 9 = .ok (.ifCond .eq 27, 3) := by decide +kernel
theorem dX4_areActions_12 : decode cX4_areActions 12 = .ok (.aload_n 0, 1) := by decide +kernel
theorem dX4_areActions_13 : decode cX4_areActions 13 = .ok (.getfield 143, 3) := by decide +kernel
theorem dX4_areActions_16 : decode cX4_areActions 16 = .ok (.aload_n 0, 1) := by decide +kernel
theorem dX4_areActions_17 : decode cX4_areActions 17 = .ok (.getfield 140, 3) := by decide +kernel
theorem dX4_areActions_20 : decode cX4_areActions 20 = .ok (.if_icmp .ne 5, 3) := by decide +kernel
theorem dX4_areActions_23 : decode cX4_areActions 23 = .ok (.iconst 1, 1) := by decide +kernel
theorem dX4_areActions_24 : decode cX4_areActions 24 = .ok (.ireturn, 1) := by decide +kernel
theorem dX4_areActions_25 : decode cX4_areActions 25 = .ok (.aload_n 0, 1) := by decide +kernel
theorem dX4_areActions_26 : decode cX4_areActions 26 = .ok (.bipush 59, 2) := by decide +kernel
theorem dX4_areActions_28 : decode cX4_areActions 28 = .ok (.invokevirtual 158, 3) := by decide +kernel
theorem dX4_areActions_31 : decode cX4_areActions 31 = .ok (.ifCond .ne (-26), 3) := by decide +kernel
theorem dX4_areActions_34 : decode cX4_areActions 34 = .ok (.iconst 0, 1) := by decide +kernel
theorem dX4_areActions_35 : decode cX4_areActions 35 = .ok (.ireturn, 1) := by decide +kernel
theorem dX4_areActions_36 : decode cX4_areActions 36 = .ok (.iconst 0, 1) := by decide +kernel
theorem dX4_areActions_37 : decode cX4_areActions 37 = .ok (.ireturn, 1) := by decide +kernel
theorem dX4_firstError_0 : decode cX4_firstError 0 = .ok (.aload_n 0, 1) := by decide +kernel
theorem dX4_firstError_1 : decode cX4_firstError 1 = .ok (.iconst 0, 1) := by decide +kernel
theorem dX4_firstError_2 : decode cX4_firstError 2 = .ok (.putfield 16, 3) := by decide +kernel
theorem dX4_firstError_5 : decode cX4_firstError 5 = .ok (.aload_n 0, 1) := by decide +kernel
theorem dX4_firstError_6 : decode cX4_firstError 6 = .ok (.invokevirtual 174, 3) := by decide +kernel
theorem dX4_firstError_9 : decode cX4_firstError 9 = .ok (.pop, 1) := by decide +kernel
theorem dX4_firstError_10 : decode cX4_firstError 10 = .ok (.aload_n 0, 1) := by decide +kernel
theorem dX4_firstError_11 : decode cX4_firstError 11 = .ok (.getfield 143, 3) := by decide +kernel
theorem dX4_firstError_14 : decode cX4_firstError 14 = .ok (.ireturn, 1) := by decide +kernel
theorem dX4_can_0 : decode cX4_can 0 = .ok (.aload_n 0, 1) := by decide +kernel
theorem dX4_can_1 : decode cX4_can 1 = .ok (.getfield 155, 3) := by decide +kernel
theorem dX4_can_4 : decode cX4_can 4 = .ok (.lookupswitch 186 #[(97, 150), (100, 90), (103, 118), (116, 60), (117, 72), (120, 62)], 60) := by decide +kernel
theorem dX4_can_64 : decode cX4_can 64 = .ok (.iconst 1, 1) := by decide +kernel
theorem dX4_can_65 : decode cX4_can 65 = .ok (.ireturn, 1) := by decide +kernel
theorem dX4_can_66 : decode cX4_can 66 = .ok (.aload_n 0, 1) := by decide +kernel
theorem dX4_can_67 : decode cX4_can 67 = .ok (.iconst 0, 1) := by decide +kernel
theorem dX4_can_68 : decode cX4_can 68 = .ok (.aload_n 0, 1) := by decide +kernel
theorem dX4_can_69 : decode cX4_can 69 = .ok (.getfield 152, 3) := by decide +kernel
theorem dX4_can_72 : decode cX4_can 72 = .ok (.invokevirtual 58, 3) := by decide +kernel
theorem dX4_can_75 : decode cX4_can 75 = .ok (.ireturn, 1) := by decide +kernel
theorem dX4_can_76 : decode cX4_can 76 = .ok (.aload_n 0, 1) := by decide +kernel
theorem dX4_can_77 : decode cX4_can 77 = .ok (.iconst 0, 1) := by decide +kernel
theorem dX4_can_78 : decode cX4_can 78 = .ok (.aload_n 0, 1) := by decide +kernel
theorem dX4_can_79 : decode cX4_can 79 = .ok (.getfield 152, 3) := by decide +kernel
theorem dX4_can_82 : decode cX4_can 82 = .ok (.invokevirtual 58, 3) := by decide +kernel
theorem dX4_can_85 : decode cX4_can 85 = .ok (.ifCond .ne 7, 3) := by decide +kernel
theorem dX4_can_88 : decode cX4_can 88 = .ok (.iconst 1, 1) := by decide +kernel
theorem dX4_can_89 : decode cX4_can 89 = .ok (.goto 4, 3) := by decide +kernel
theorem dX4_can_92 : decode cX4_can 92 = .ok (.iconst 0, 1) := by decide +kernel
theorem dX4_can_93 : decode cX4_can 93 = .ok (.ireturn, 1) := by decide +kernel
theorem dX4_can_94 : decode cX4_can 94 = .ok (.aload_n 0, 1) := by decide +kernel
theorem dX4_can_95 : decode cX4_can 95 = .ok (.aload_n 0, 1) := by decide +kernel
theorem dX4_can_96 : decode cX4_can 96 = .ok (.getfield 152, 3) := by decide +kernel
theorem dX4_can_99 : decode cX4_can 99 = .ok (.invokevirtual 96, 3) := by decide +kernel
theorem dX4_can_102 : decode cX4_can 102 = .ok (.ifCond .eq 18, 3) := by decide +kernel
theorem dX4_can_105 : decode cX4_can 105 = .ok (.aload_n 0, 1) := by decide +kernel
theorem dX4_can_106 : decode cX4_can 106 = .ok (.aload_n 0, 1) := by decide +kernel
theorem dX4_can_107 : decode cX4_can 107 = .ok (.getfield 152, 3) := by decide +kernel
theorem dX4_can_110 : decode cX4_can 110 = .ok (.invokevirtual 106, 3) := by decide +kernel
theorem dX4_can_113 : decode cX4_can 113 = .ok (.ifCond .eq 7, 3) := by decide +kernel
theorem dX4_can_116 : decode cX4_can 116 = .ok (.iconst 1, 1) := by decide +kernel
theorem dX4_can_117 : decode cX4_can 117 = .ok (.goto 4, 3) := by decide +kernel
theorem dX4_can_120 : decode cX4_can 120 = .ok (.iconst 0, 1) := by decide +kernel
theorem dX4_can_121 : decode cX4_can 121 = .ok (.ireturn, 1) := by decide +kernel
theorem dX4_can_122 : decode cX4_can 122 = .ok (.aload_n 0, 1) := by decide +kernel
theorem dX4_can_123 : decode cX4_can 123 = .ok (.aload_n 0, 1) := by decide +kernel
theorem dX4_can_124 : decode cX4_can 124 = .ok (.getfield 152, 3) := by decide +kernel
theorem dX4_can_127 : decode cX4_can 127 = .ok (.invokevirtual 96, 3) := by decide +kernel
theorem dX4_can_130 : decode cX4_can 130 = .ok (.ifCond .eq 22, 3) := by decide +kernel
theorem dX4_can_133 : decode cX4_can 133 = .ok (.aload_n 0, 1) := by decide +kernel
theorem dX4_can_134 : decode cX4_can 134 = .ok (.aload_n 0, 1) := by decide +kernel
theorem dX4_can_135 : decode cX4_can 135 = .ok (.getfield 152, 3) := by decide +kernel
theorem dX4_can_138 : decode cX4_can 138 = .ok (.aload_n 0, 1) := by decide +kernel
theorem dX4_can_139 : decode cX4_can 139 = .ok (.getfield 165, 3) := by decide +kernel
theorem dX4_can_142 : decode cX4_can 142 = .ok (.invokevirtual 112, 3) := by decide +kernel
theorem dX4_can_145 : decode cX4_can 145 = .ok (.ifCond .eq 7, 3) := by decide +kernel
theorem dX4_can_148 : decode cX4_can 148 = .ok (.iconst 1, 1) := by decide +kernel
theorem dX4_can_149 : decode cX4_can 149 = .ok (.goto 4, 3) := by decide +kernel
theorem dX4_can_152 : decode cX4_can 152 = .ok (.iconst 0, 1) := by decide +kernel
theorem dX4_can_153 : decode cX4_can 153 = .ok (.ireturn, 1) := by decide +kernel
theorem dX4_can_154 : decode cX4_can 154 = .ok (.aload_n 0, 1) := by decide +kernel
theorem dX4_can_155 : decode cX4_can 155 = .ok (.aload_n 0, 1) := by decide +kernel
theorem dX4_can_156 : decode cX4_can 156 = .ok (.getfield 152, 3) := by decide +kernel
theorem dX4_can_159 : decode cX4_can 159 = .ok (.invokevirtual 96, 3) := by decide +kernel
theorem dX4_can_162 : decode cX4_can 162 = .ok (.ifCond .eq 26, 3) := by decide +kernel
theorem dX4_can_165 : decode cX4_can 165 = .ok (.aload_n 0, 1) := by decide +kernel
theorem dX4_can_166 : decode cX4_can 166 = .ok (.aload_n 0, 1) := by decide +kernel
theorem dX4_can_167 : decode cX4_can 167 = .ok (.getfield 152, 3) := by decide +kernel
theorem dX4_can_170 : decode cX4_can 170 = .ok (.aload_n 0, 1) := by decide +kernel
theorem dX4_can_171 : decode cX4_can 171 = .ok (.getfield 165, 3) := by decide +kernel
theorem dX4_can_174 : decode cX4_can 174 = .ok (.aload_n 0, 1) := by decide +kernel
theorem dX4_can_175 : decode cX4_can 175 = .ok (.getfield 168, 3) := by decide +kernel
theorem dX4_can_178 : decode cX4_can 178 = .ok (.invokevirtual 115, 3) := by decide +kernel
theorem dX4_can_181 : decode cX4_can 181 = .ok (.ifCond .eq 7, 3) := by decide +kernel
theorem dX4_can_184 : decode cX4_can 184 = .ok (.iconst 1, 1) := by decide +kernel
theorem dX4_can_185 : decode cX4_can 185 = .ok (.goto 4, 3) := by decide +kernel
theorem dX4_can_188 : decode cX4_can 188 = .ok (.iconst 0, 1) := by decide +kernel
theorem dX4_can_189 : decode cX4_can 189 = .ok (.ireturn, 1) := by decide +kernel
theorem dX4_can_190 : decode cX4_can 190 = .ok (.aload_n 0, 1) := by decide +kernel
theorem dX4_can_191 : decode cX4_can 191 = .ok (.aload_n 0, 1) := by decide +kernel
theorem dX4_can_192 : decode cX4_can 192 = .ok (.getfield 152, 3) := by decide +kernel
theorem dX4_can_195 : decode cX4_can 195 = .ok (.invokevirtual 96, 3) := by decide +kernel
theorem dX4_can_198 : decode cX4_can 198 = .ok (.ifCond .eq 22, 3) := by decide +kernel
theorem dX4_can_201 : decode cX4_can 201 = .ok (.aload_n 0, 1) := by decide +kernel
theorem dX4_can_202 : decode cX4_can 202 = .ok (.aload_n 0, 1) := by decide +kernel
theorem dX4_can_203 : decode cX4_can 203 = .ok (.getfield 152, 3) := by decide +kernel
theorem dX4_can_206 : decode cX4_can 206 = .ok (.aload_n 0, 1) := by decide +kernel
theorem dX4_can_207 : decode cX4_can 207 = .ok (.getfield 165, 3) := by decide +kernel
theorem dX4_can_210 : decode cX4_can 210 = .ok (.invokevirtual 99, 3) := by decide +kernel
theorem dX4_can_213 : decode cX4_can 213 = .ok (.ifCond .eq 7, 3) := by decide +kernel
theorem dX4_can_216 : decode cX4_can 216 = .ok (.iconst 1, 1) := by decide +kernel
theorem dX4_can_217 : decode cX4_can 217 = .ok (.goto 4, 3) := by decide +kernel
theorem dX4_can_220 : decode cX4_can 220 = .ok (.iconst 0, 1) := by decide +kernel
theorem dX4_can_221 : decode cX4_can 221 = .ok (.ireturn, 1) := by decide +kernel
theorem dX4_does_0 : decode cX4_does 0 = .ok (.aload_n 0, 1) := by decide +kernel
theorem dX4_does_1 : decode cX4_does 1 = .ok (.getfield 155, 3) := by decide +kernel
theorem dX4_does_4 : decode cX4_does 4 = .ok (.lookupswitch 160 #[(97, 140), (100, 104), (103, 124), (116, 60), (117, 92), (120, 72)], 60) := by decide +kernel
theorem dX4_does_64 : decode cX4_does 64 = .ok (.aload_n 0, 1) := by decide +kernel
theorem dX4_does_65 : decode cX4_does 65 = .ok (.aload_n 0, 1) := by decide +kernel
theorem dX4_does_66 : decode cX4_does 66 = .ok (.getfield 152, 3) := by decide +kernel
theorem dX4_does_69 : decode cX4_does 69 = .ok (.invokevirtual 124, 3) := by decide +kernel
theorem dX4_does_72 : decode cX4_does 72 = .ok (.pop, 1) := by decide +kernel
theorem dX4_does_73 : decode cX4_does 73 = .ok (.goto 117, 3) := by decide +kernel
theorem dX4_does_76 : decode cX4_does 76 = .ok (.aload_n 0, 1) := by decide +kernel
theorem dX4_does_77 : decode cX4_does 77 = .ok (.getfield 7, 3) := by decide +kernel
theorem dX4_does_80 : decode cX4_does 80 = .ok (.iconst 0, 1) := by decide +kernel
theorem dX4_does_81 : decode cX4_does 81 = .ok (.dup2, 1) := by decide +kernel
theorem dX4_does_82 : decode cX4_does 82 = .ok (.iaload, 1) := by decide +kernel
theorem dX4_does_83 : decode cX4_does 83 = .ok (.iconst 1, 1) := by decide +kernel
theorem dX4_does_84 : decode cX4_does 84 = .ok (.aload_n 0, 1) := by decide +kernel
theorem dX4_does_85 : decode cX4_does 85 = .ok (.getfield 152, 3) := by decide +kernel
theorem dX4_does_88 : decode cX4_does 88 = .ok (.ishl, 1) := by decide +kernel
theorem dX4_does_89 : decode cX4_does 89 = .ok (.iconst (-1), 1) := by decide +kernel
theorem dX4_does_90 : decode cX4_does 90 = .ok (.ixor, 1) := by decide +kernel
theorem dX4_does_91 : decode cX4_does 91 = .ok (.iand, 1) := by decide +kernel
theorem dX4_does_92 : decode cX4_does 92 = .ok (.iastore, 1) := by decide +kernel
theorem dX4_does_93 : decode cX4_does 93 = .ok (.goto 97, 3) := by decide +kernel
theorem dX4_does_96 : decode cX4_does 96 = .ok (.aload_n 0, 1) := by decide +kernel
theorem dX4_does_97 : decode cX4_does 97 = .ok (.aload_n 0, 1) := by decide +kernel
theorem dX4_does_98 : decode cX4_does 98 = .ok (.getfield 152, 3) := by decide +kernel
theorem dX4_does_101 : decode cX4_does 101 = .ok (.invokevirtual 121, 3) := by decide +kernel
theorem dX4_does_104 : decode cX4_does 104 = .ok (.pop, 1) := by decide +kernel
theorem dX4_does_105 : decode cX4_does 105 = .ok (.goto 85, 3) := by decide +kernel
theorem dX4_does_108 : decode cX4_does 108 = .ok (.aload_n 0, 1) := by decide +kernel
theorem dX4_does_109 : decode cX4_does 109 = .ok (.iconst 0, 1) := by decide +kernel
theorem dX4_does_110 : decode cX4_does 110 = .ok (.aload_n 0, 1) := by decide +kernel
theorem dX4_does_111 : decode cX4_does 111 = .ok (.getfield 152, 3) := by decide +kernel
theorem dX4_does_114 : decode cX4_does 114 = .ok (.aload_n 0, 1) := by decide +kernel
theorem dX4_does_115 : decode cX4_does 115 = .ok (.aload_n 0, 1) := by decide +kernel
theorem dX4_does_116 : decode cX4_does 116 = .ok (.getfield 152, 3) := by decide +kernel
theorem dX4_does_119 : decode cX4_does 119 = .ok (.invokevirtual 109, 3) := by decide +kernel
theorem dX4_does_122 : decode cX4_does 122 = .ok (.invokevirtual 49, 3) := by decide +kernel
theorem dX4_does_125 : decode cX4_does 125 = .ok (.goto 65, 3) := by decide +kernel
theorem dX4_does_128 : decode cX4_does 128 = .ok (.aload_n 0, 1) := by decide +kernel
theorem dX4_does_129 : decode cX4_does 129 = .ok (.iconst 0, 1) := by decide +kernel
theorem dX4_does_130 : decode cX4_does 130 = .ok (.aload_n 0, 1) := by decide +kernel
theorem dX4_does_131 : decode cX4_does 131 = .ok (.getfield 152, 3) := by decide +kernel
theorem dX4_does_134 : decode cX4_does 134 = .ok (.aload_n 0, 1) := by decide +kernel
theorem dX4_does_135 : decode cX4_does 135 = .ok (.getfield 165, 3) := by decide +kernel
theorem dX4_does_138 : decode cX4_does 138 = .ok (.invokevirtual 52, 3) := by decide +kernel
theorem dX4_does_141 : decode cX4_does 141 = .ok (.goto 49, 3) := by decide +kernel
theorem dX4_does_144 : decode cX4_does 144 = .ok (.aload_n 0, 1) := by decide +kernel
theorem dX4_does_145 : decode cX4_does 145 = .ok (.iconst 0, 1) := by decide +kernel
theorem dX4_does_146 : decode cX4_does 146 = .ok (.aload_n 0, 1) := by decide +kernel
theorem dX4_does_147 : decode cX4_does 147 = .ok (.getfield 152, 3) := by decide +kernel
theorem dX4_does_150 : decode cX4_does 150 = .ok (.aload_n 0, 1) := by decide +kernel
theorem dX4_does_151 : decode cX4_does 151 = .ok (.getfield 165, 3) := by decide +kernel
theorem dX4_does_154 : decode cX4_does 154 = .ok (.aload_n 0, 1) := by decide +kernel
theorem dX4_does_155 : decode cX4_does 155 = .ok (.getfield 168, 3) := by decide +kernel
theorem dX4_does_158 : decode cX4_does 158 = .ok (.invokevirtual 62, 3) := by decide +kernel
theorem dX4_does_161 : decode cX4_does 161 = .ok (.goto 29, 3) := by decide +kernel
theorem dX4_does_164 : decode cX4_does 164 = .ok (.aload_n 0, 1) := by decide +kernel
theorem dX4_does_165 : decode cX4_does 165 = .ok (.aload_n 0, 1) := by decide +kernel
theorem dX4_does_166 : decode cX4_does 166 = .ok (.getfield 152, 3) := by decide +kernel
theorem dX4_does_169 : decode cX4_does 169 = .ok (.aload_n 0, 1) := by decide +kernel
theorem dX4_does_170 : decode cX4_does 170 = .ok (.getfield 165, 3) := by decide +kernel
theorem dX4_does_173 : decode cX4_does 173 = .ok (.aload_n 0, 1) := by decide +kernel
theorem dX4_does_174 : decode cX4_does 174 = .ok (.getfield 155, 3) := by decide +kernel
theorem dX4_does_177 : decode cX4_does 177 = .ok (.bipush 121, 2) := by decide +kernel
theorem dX4_does_179 : decode cX4_does 179 = .ok (.if_icmp .ne 7, 3) := by decide +kernel
theorem dX4_does_182 : decode cX4_does 182 = .ok (.iconst 1, 1) := by decide +kernel
theorem dX4_does_183 : decode cX4_does 183 = .ok (.goto 4, 3) := by decide +kernel
theorem dX4_does_186 : decode cX4_does 186 = .ok (.iconst 0, 1) := by decide +kernel
theorem dX4_does_187 : decode cX4_does 187 = .ok (.invokevirtual 102, 3) := by decide +kernel
theorem dX4_does_190 : decode cX4_does 190 = .ok (.return_, 1) := by decide +kernel
theorem dX4_run_0 : decode cX4_run 0 = .ok (.aload_n 0, 1) := by decide +kernel
theorem dX4_run_1 : decode cX4_run 1 = .ok (.aload_n 0, 1) := by decide +kernel
theorem dX4_run_2 : decode cX4_run 2 = .ok (.invokevirtual 174, 3) := by decide +kernel
theorem dX4_run_5 : decode cX4_run 5 = .ok (.ifCond .eq 7, 3) := by decide +kernel
theorem dX4_run_8 : decode cX4_run 8 = .ok (.iconst 0, 1) := by decide +kernel
theorem dX4_run_9 : decode cX4_run 9 = .ok (.goto 4, 3) := by decide +kernel
theorem dX4_run_12 : decode cX4_run 12 = .ok (.iconst 1, 1) := by decide +kernel
theorem dX4_run_13 : decode cX4_run 13 = .ok (.invokevirtual 90, 3) := by decide +kernel
theorem dX4_run_16 : decode cX4_run 16 = .ok (.ifCond .ne 5, 3) := by decide +kernel
theorem dX4_run_19 : decode cX4_run 19 = .ok (.iconst 0, 1) := by decide +kernel
theorem dX4_run_20 : decode cX4_run 20 = .ok (.ireturn, 1) := by decide +kernel
theorem dX4_run_21 : decode cX4_run 21 = .ok (.aload_n 0, 1) := by decide +kernel
theorem dX4_run_22 : decode cX4_run 22 = .ok (.invokevirtual 93, 3) := by decide +kernel
theorem dX4_run_25 : decode cX4_run 25 = .ok (.aload_n 0, 1) := by decide +kernel
theorem dX4_run_26 : decode cX4_run 26 = .ok (.iconst 0, 1) := by decide +kernel
theorem dX4_run_27 : decode cX4_run 27 = .ok (.putfield 143, 3) := by decide +kernel
theorem dX4_run_30 : decode cX4_run 30 = .ok (.iconst 0, 1) := by decide +kernel
theorem dX4_run_31 : decode cX4_run 31 = .ok (.istore_n 1, 1) := by decide +kernel
theorem dX4_run_32 : decode cX4_run 32 = .ok (.aload_n 0, 1) := by decide +kernel
theorem dX4_run_33 : decode cX4_run 33 = .ok (.invokevirtual 171, 3) := by decide +kernel
theorem dX4_run_36 : decode cX4_run 36 = .ok (.ifCond .eq 27, 3) := by decide +kernel
theorem dX4_run_39 : decode cX4_run 39 = .ok (.aload_n 0, 1) := by decide +kernel
theorem dX4_run_40 : decode cX4_run 40 = .ok (.invokevirtual 177, 3) := by decide +kernel
theorem dX4_run_43 : decode cX4_run 43 = .ok (.ifCond .eq 20, 3) := by decide +kernel
theorem dX4_run_46 : decode cX4_run 46 = .ok (.aload_n 0, 1) := by decide +kernel
theorem dX4_run_47 : decode cX4_run 47 = .ok (.invokevirtual 180, 3) := by decide +kernel
theorem dX4_run_50 : decode cX4_run 50 = .ok (.iinc 1 1, 3) := by decide +kernel
theorem dX4_run_53 : decode cX4_run 53 = .ok (.aload_n 0, 1) := by decide +kernel
theorem dX4_run_54 : decode cX4_run 54 = .ok (.bipush 59, 2) := by decide +kernel
theorem dX4_run_56 : decode cX4_run 56 = .ok (.invokevirtual 158, 3) := by decide +kernel
theorem dX4_run_59 : decode cX4_run 59 = .ok (.pop, 1) := by decide +kernel
theorem dX4_run_60 : decode cX4_run 60 = .ok (.goto (-28), 3) := by decide +kernel
theorem dX4_run_63 : decode cX4_run 63 = .ok (.aload_n 0, 1) := by decide +kernel
theorem dX4_run_64 : decode cX4_run 64 = .ok (.iconst 0, 1) := by decide +kernel
theorem dX4_run_65 : decode cX4_run 65 = .ok (.putfield 140, 3) := by decide +kernel
theorem dX4_run_68 : decode cX4_run 68 = .ok (.iload_n 1, 1) := by decide +kernel
theorem dX4_run_69 : decode cX4_run 69 = .ok (.ireturn, 1) := by decide +kernel
theorem dX4_undo_0 : decode cX4_undo 0 = .ok (.aload_n 0, 1) := by decide +kernel
theorem dX4_undo_1 : decode cX4_undo 1 = .ok (.aload_n 0, 1) := by decide +kernel
theorem dX4_undo_2 : decode cX4_undo 2 = .ok (.getfield 76, 3) := by decide +kernel
theorem dX4_undo_5 : decode cX4_undo 5 = .ok (.ifCond .le 7, 3) := by decide +kernel
theorem dX4_undo_8 : decode cX4_undo 8 = .ok (.iconst 0, 1) := by decide +kernel
theorem dX4_undo_9 : decode cX4_undo 9 = .ok (.goto 4, 3) := by decide +kernel
theorem dX4_undo_12 : decode cX4_undo 12 = .ok (.iconst 1, 1) := by decide +kernel
theorem dX4_undo_13 : decode cX4_undo 13 = .ok (.invokevirtual 90, 3) := by decide +kernel
theorem dX4_undo_16 : decode cX4_undo 16 = .ok (.ifCond .ne 5, 3) := by decide +kernel
theorem dX4_undo_19 : decode cX4_undo 19 = .ok (.iconst 0, 1) := by decide +kernel
theorem dX4_undo_20 : decode cX4_undo 20 = .ok (.ireturn, 1) := by decide +kernel
theorem dX4_undo_21 : decode cX4_undo 21 = .ok (.aload_n 0, 1) := by decide +kernel
theorem dX4_undo_22 : decode cX4_undo 22 = .ok (.aload_n 0, 1) := by decide +kernel
theorem dX4_undo_23 : decode cX4_undo 23 = .ok (.getfield 76, 3) := by decide +kernel
theorem dX4_undo_26 : decode cX4_undo 26 = .ok (.iconst 0, 1) := by decide +kernel
theorem dX4_undo_27 : decode cX4_undo 27 = .ok (.invokevirtual 79, 3) := by decide +kernel
theorem dX4_undo_30 : decode cX4_undo 30 = .ok (.aload_n 0, 1) := by decide +kernel
theorem dX4_undo_31 : decode cX4_undo 31 = .ok (.dup, 1) := by decide +kernel
theorem dX4_undo_32 : decode cX4_undo 32 = .ok (.getfield 76, 3) := by decide +kernel
theorem dX4_undo_35 : decode cX4_undo 35 = .ok (.iconst 1, 1) := by decide +kernel
theorem dX4_undo_36 : decode cX4_undo 36 = .ok (.isub, 1) := by decide +kernel
theorem dX4_undo_37 : decode cX4_undo 37 = .ok (.putfield 76, 3) := by decide +kernel
theorem dX4_undo_40 : decode cX4_undo 40 = .ok (.aload_n 0, 1) := by decide +kernel
theorem dX4_undo_41 : decode cX4_undo 41 = .ok (.getfield 76, 3) := by decide +kernel
theorem dX4_undo_44 : decode cX4_undo 44 = .ok (.ireturn, 1) := by decide +kernel
theorem dX4_savedStates_0 : decode cX4_savedStates 0 = .ok (.aload_n 0, 1) := by decide +kernel
theorem dX4_savedStates_1 : decode cX4_savedStates 1 = .ok (.iconst 0, 1) := by decide +kernel
theorem dX4_savedStates_2 : decode cX4_savedStates 2 = .ok (.putfield 16, 3) := by decide +kernel
theorem dX4_savedStates_5 : decode cX4_savedStates 5 = .ok (.aload_n 0, 1) := by decide +kernel
theorem dX4_savedStates_6 : decode cX4_savedStates 6 = .ok (.getfield 76, 3) := by decide +kernel
theorem dX4_savedStates_9 : decode cX4_savedStates 9 = .ok (.ireturn, 1) := by decide +kernel
theorem dX4_mix_0 : decode cX4_mix 0 = .ok (.aload_n 0, 1) := by decide +kernel
theorem dX4_mix_1 : decode cX4_mix 1 = .ok (.ldc2_w 183, 3) := by decide +kernel
theorem dX4_mix_4 : decode cX4_mix 4 = .ok (.aload_n 0, 1) := by decide +kernel
theorem dX4_mix_5 : decode cX4_mix 5 = .ok (.getfield 185, 3) := by decide +kernel
theorem dX4_mix_8 : decode cX4_mix 8 = .ok (.lmul, 1) := by decide +kernel
theorem dX4_mix_9 : decode cX4_mix 9 = .ok (.lload_n 1, 1) := by decide +kernel
theorem dX4_mix_10 : decode cX4_mix 10 = .ok (.ladd, 1) := by decide +kernel
theorem dX4_mix_11 : decode cX4_mix 11 = .ok (.putfield 185, 3) := by decide +kernel
theorem dX4_mix_14 : decode cX4_mix 14 = .ok (.return_, 1) := by decide +kernel
theorem dX4_digest_0 : decode cX4_digest 0 = .ok (.aload_n 0, 1) := by decide +kernel
theorem dX4_digest_1 : decode cX4_digest 1 = .ok (.iconst 0, 1) := by decide +kernel
theorem dX4_digest_2 : decode cX4_digest 2 = .ok (.putfield 16, 3) := by decide +kernel
theorem dX4_digest_5 : decode cX4_digest 5 = .ok (.aload_n 0, 1) := by decide +kernel
theorem dX4_digest_6 : decode cX4_digest 6 = .ok (.ldc2_w 189, 3) := by decide +kernel
theorem dX4_digest_9 : decode cX4_digest 9 = .ok (.putfield 185, 3) := by decide +kernel
theorem dX4_digest_12 : decode cX4_digest 12 = .ok (.aload_n 0, 1) := by decide +kernel
theorem dX4_digest_13 : decode cX4_digest 13 = .ok (.aload_n 0, 1) := by decide +kernel
theorem dX4_digest_14 : decode cX4_digest 14 = .ok (.getfield 7, 3) := by decide +kernel
theorem dX4_digest_17 : decode cX4_digest 17 = .ok (.iconst 3, 1) := by decide +kernel
theorem dX4_digest_18 : decode cX4_digest 18 = .ok (.iaload, 1) := by decide +kernel
theorem dX4_digest_19 : decode cX4_digest 19 = .ok (.i2l, 1) := by decide +kernel
theorem dX4_digest_20 : decode cX4_digest 20 = .ok (.invokevirtual 191, 3) := by decide +kernel
theorem dX4_digest_23 : decode cX4_digest 23 = .ok (.aload_n 0, 1) := by decide +kernel
theorem dX4_digest_24 : decode cX4_digest 24 = .ok (.aload_n 0, 1) := by decide +kernel
theorem dX4_digest_25 : decode cX4_digest 25 = .ok (.invokevirtual 130, 3) := by decide +kernel
theorem dX4_digest_28 : decode cX4_digest 28 = .ok (.i2l, 1) := by decide +kernel
theorem dX4_digest_29 : decode cX4_digest 29 = .ok (.invokevirtual 191, 3) := by decide +kernel
theorem dX4_digest_32 : decode cX4_digest 32 = .ok (.aload_n 0, 1) := by decide +kernel
theorem dX4_digest_33 : decode cX4_digest 33 = .ok (.aload_n 0, 1) := by decide +kernel
theorem dX4_digest_34 : decode cX4_digest 34 = .ok (.invokevirtual 137, 3) := by decide +kernel
theorem dX4_digest_37 : decode cX4_digest 37 = .ok (.i2l, 1) := by decide +kernel
theorem dX4_digest_38 : decode cX4_digest 38 = .ok (.invokevirtual 191, 3) := by decide +kernel
theorem dX4_digest_41 : decode cX4_digest 41 = .ok (.aload_n 0, 1) := by decide +kernel
theorem dX4_digest_42 : decode cX4_digest 42 = .ok (.aload_n 0, 1) := by decide +kernel
theorem dX4_digest_43 : decode cX4_digest 43 = .ok (.getfield 7, 3) := by decide +kernel
theorem dX4_digest_46 : decode cX4_digest 46 = .ok (.iconst 1, 1) := by decide +kernel
theorem dX4_digest_47 : decode cX4_digest 47 = .ok (.iaload, 1) := by decide +kernel
theorem dX4_digest_48 : decode cX4_digest 48 = .ok (.i2l, 1) := by decide +kernel
theorem dX4_digest_49 : decode cX4_digest 49 = .ok (.invokevirtual 191, 3) := by decide +kernel
theorem dX4_digest_52 : decode cX4_digest 52 = .ok (.iconst 0, 1) := by decide +kernel
theorem dX4_digest_53 : decode cX4_digest 53 = .ok (.istore_n 1, 1) := by decide +kernel
theorem dX4_digest_54 : decode cX4_digest 54 = .ok (.iload_n 1, 1) := by decide +kernel
theorem dX4_digest_55 : decode cX4_digest 55 = .ok (.bipush 6, 2) := by decide +kernel
theorem dX4_digest_57 : decode cX4_digest 57 = .ok (.if_icmp .ge 83, 3) := by decide +kernel
theorem dX4_digest_60 : decode cX4_digest 60 = .ok (.aload_n 0, 1) := by decide +kernel
theorem dX4_digest_61 : decode cX4_digest 61 = .ok (.aload_n 0, 1) := by decide +kernel
theorem dX4_digest_62 : decode cX4_digest 62 = .ok (.iconst 0, 1) := by decide +kernel
theorem dX4_digest_63 : decode cX4_digest 63 = .ok (.iload_n 1, 1) := by decide +kernel
theorem dX4_digest_64 : decode cX4_digest 64 = .ok (.invokevirtual 58, 3) := by decide +kernel
theorem dX4_digest_67 : decode cX4_digest 67 = .ok (.ifCond .eq 7, 3) := by decide +kernel
theorem dX4_digest_70 : decode cX4_digest 70 = .ok (.lconst 1, 1) := by decide +kernel
theorem dX4_digest_71 : decode cX4_digest 71 = .ok (.goto 4, 3) := by decide +kernel
theorem dX4_digest_74 : decode cX4_digest 74 = .ok (.lconst 0, 1) := by decide +kernel
theorem dX4_digest_75 : decode cX4_digest 75 = .ok (.invokevirtual 191, 3) := by decide +kernel
theorem dX4_digest_78 : decode cX4_digest 78 = .ok (.aload_n 0, 1) := by decide +kernel
theorem dX4_digest_79 : decode cX4_digest 79 = .ok (.aload_n 0, 1) := by decide +kernel
theorem dX4_digest_80 : decode cX4_digest 80 = .ok (.iconst 0, 1) := by decide +kernel
theorem dX4_digest_81 : decode cX4_digest 81 = .ok (.iload_n 1, 1) := by decide +kernel
theorem dX4_digest_82 : decode cX4_digest 82 = .ok (.invokevirtual 38, 3) := by decide +kernel
theorem dX4_digest_85 : decode cX4_digest 85 = .ok (.i2l, 1) := by decide +kernel
theorem dX4_digest_86 : decode cX4_digest 86 = .ok (.invokevirtual 191, 3) := by decide +kernel
theorem dX4_digest_89 : decode cX4_digest 89 = .ok (.iconst 0, 1) := by decide +kernel
theorem dX4_digest_90 : decode cX4_digest 90 = .ok (.istore_n 2, 1) := by decide +kernel
theorem dX4_digest_91 : decode cX4_digest 91 = .ok (.iload_n 2, 1) := by decide +kernel
theorem dX4_digest_92 : decode cX4_digest 92 = .ok (.aload_n 0, 1) := by decide +kernel
theorem dX4_digest_93 : decode cX4_digest 93 = .ok (.getfield 7, 3) := by decide +kernel
theorem dX4_digest_96 : decode cX4_digest 96 = .ok (.sipush 132, 3) := by decide +kernel
theorem dX4_digest_99 : decode cX4_digest 99 = .ok (.bipush 25, 2) := by decide +kernel
theorem dX4_digest_101 : decode cX4_digest 101 = .ok (.iload_n 1, 1) := by decide +kernel
theorem dX4_digest_102 : decode cX4_digest 102 = .ok (.imul, 1) := by decide +kernel
theorem dX4_digest_103 : decode cX4_digest 103 = .ok (.iadd, 1) := by decide +kernel
theorem dX4_digest_104 : decode cX4_digest 104 = .ok (.iaload, 1) := by decide +kernel
theorem dX4_digest_105 : decode cX4_digest 105 = .ok (.if_icmp .gt 29, 3) := by decide +kernel
theorem dX4_digest_108 : decode cX4_digest 108 = .ok (.aload_n 0, 1) := by decide +kernel
theorem dX4_digest_109 : decode cX4_digest 109 = .ok (.aload_n 0, 1) := by decide +kernel
theorem dX4_digest_110 : decode cX4_digest 110 = .ok (.getfield 7, 3) := by decide +kernel
theorem dX4_digest_113 : decode cX4_digest 113 = .ok (.sipush 132, 3) := by decide +kernel
theorem dX4_digest_116 : decode cX4_digest 116 = .ok (.bipush 25, 2) := by decide +kernel
theorem dX4_digest_118 : decode cX4_digest 118 = .ok (.iload_n 1, 1) := by decide +kernel
theorem dX4_digest_119 : decode cX4_digest 119 = .ok (.imul, 1) := by decide +kernel
theorem dX4_digest_120 : decode cX4_digest 120 = .ok (.iadd, 1) := by decide +kernel
theorem dX4_digest_121 : decode cX4_digest 121 = .ok (.iload_n 2, 1) := by decide +kernel
theorem dX4_digest_122 : decode cX4_digest 122 = .ok (.iadd, 1) := by decide +kernel
theorem dX4_digest_123 : decode cX4_digest 123 = .ok (.iaload, 1) := by decide +kernel
theorem dX4_digest_124 : decode cX4_digest 124 = .ok (.i2l, 1) := by decide +kernel
theorem dX4_digest_125 : decode cX4_digest 125 = .ok (.invokevirtual 191, 3) := by decide +kernel
theorem dX4_digest_128 : decode cX4_digest 128 = .ok (.iinc 2 1, 3) := by decide +kernel
theorem dX4_digest_131 : decode cX4_digest 131 = .ok (.goto (-40), 3) := by decide +kernel
theorem dX4_digest_134 : decode cX4_digest 134 = .ok (.iinc 1 1, 3) := by decide +kernel
theorem dX4_digest_137 : decode cX4_digest 137 = .ok (.goto (-83), 3) := by decide +kernel
theorem dX4_digest_140 : decode cX4_digest 140 = .ok (.iconst 0, 1) := by decide +kernel
theorem dX4_digest_141 : decode cX4_digest 141 = .ok (.istore_n 1, 1) := by decide +kernel
theorem dX4_digest_142 : decode cX4_digest 142 = .ok (.iload_n 1, 1) := by decide +kernel
theorem dX4_digest_143 : decode cX4_digest 143 = .ok (.aload_n 0, 1) := by decide +kernel
theorem dX4_digest_144 : decode cX4_digest 144 = .ok (.getfield 7, 3) := by decide +kernel
theorem dX4_digest_147 : decode cX4_digest 147 = .ok (.iconst 3, 1) := by decide +kernel
theorem dX4_digest_148 : decode cX4_digest 148 = .ok (.iaload, 1) := by decide +kernel
theorem dX4_digest_149 : decode cX4_digest 149 = .ok (.if_icmp .ge 81, 3) := by decide +kernel
theorem dX4_digest_152 : decode cX4_digest 152 = .ok (.aload_n 0, 1) := by decide +kernel
theorem dX4_digest_153 : decode cX4_digest 153 = .ok (.aload_n 0, 1) := by decide +kernel
theorem dX4_digest_154 : decode cX4_digest 154 = .ok (.iconst 0, 1) := by decide +kernel
theorem dX4_digest_155 : decode cX4_digest 155 = .ok (.iload_n 1, 1) := by decide +kernel
theorem dX4_digest_156 : decode cX4_digest 156 = .ok (.iconst 0, 1) := by decide +kernel
theorem dX4_digest_157 : decode cX4_digest 157 = .ok (.invokevirtual 24, 3) := by decide +kernel
theorem dX4_digest_160 : decode cX4_digest 160 = .ok (.i2l, 1) := by decide +kernel
theorem dX4_digest_161 : decode cX4_digest 161 = .ok (.invokevirtual 191, 3) := by decide +kernel
theorem dX4_digest_164 : decode cX4_digest 164 = .ok (.aload_n 0, 1) := by decide +kernel
theorem dX4_digest_165 : decode cX4_digest 165 = .ok (.aload_n 0, 1) := by decide +kernel
theorem dX4_digest_166 : decode cX4_digest 166 = .ok (.iconst 0, 1) := by decide +kernel
theorem dX4_digest_167 : decode cX4_digest 167 = .ok (.iload_n 1, 1) := by decide +kernel
theorem dX4_digest_168 : decode cX4_digest 168 = .ok (.iconst 3, 1) := by decide +kernel
theorem dX4_digest_169 : decode cX4_digest 169 = .ok (.invokevirtual 24, 3) := by decide +kernel
theorem dX4_digest_172 : decode cX4_digest 172 = .ok (.i2l, 1) := by decide +kernel
theorem dX4_digest_173 : decode cX4_digest 173 = .ok (.invokevirtual 191, 3) := by decide +kernel
theorem dX4_digest_176 : decode cX4_digest 176 = .ok (.iconst 0, 1) := by decide +kernel
theorem dX4_digest_177 : decode cX4_digest 177 = .ok (.istore_n 2, 1) := by decide +kernel
theorem dX4_digest_178 : decode cX4_digest 178 = .ok (.iload_n 2, 1) := by decide +kernel
theorem dX4_digest_179 : decode cX4_digest 179 = .ok (.bipush 6, 2) := by decide +kernel
theorem dX4_digest_181 : decode cX4_digest 181 = .ok (.if_icmp .ge 43, 3) := by decide +kernel
theorem dX4_digest_184 : decode cX4_digest 184 = .ok (.aload_n 0, 1) := by decide +kernel
theorem dX4_digest_185 : decode cX4_digest 185 = .ok (.aload_n 0, 1) := by decide +kernel
theorem dX4_digest_186 : decode cX4_digest 186 = .ok (.iconst 0, 1) := by decide +kernel
theorem dX4_digest_187 : decode cX4_digest 187 = .ok (.iload_n 1, 1) := by decide +kernel
theorem dX4_digest_188 : decode cX4_digest 188 = .ok (.iload_n 2, 1) := by decide +kernel
theorem dX4_digest_189 : decode cX4_digest 189 = .ok (.invokevirtual 35, 3) := by decide +kernel
theorem dX4_digest_192 : decode cX4_digest 192 = .ok (.i2l, 1) := by decide +kernel
theorem dX4_digest_193 : decode cX4_digest 193 = .ok (.invokevirtual 191, 3) := by decide +kernel
theorem dX4_digest_196 : decode cX4_digest 196 = .ok (.aload_n 0, 1) := by decide +kernel
theorem dX4_digest_197 : decode cX4_digest 197 = .ok (.aload_n 0, 1) := by decide +kernel
theorem dX4_digest_198 : decode cX4_digest 198 = .ok (.iload_n 1, 1) := by decide +kernel
theorem dX4_digest_199 : decode cX4_digest 199 = .ok (.iload_n 2, 1) := by decide +kernel
theorem dX4_digest_200 : decode cX4_digest 200 = .ok (.invokevirtual 127, 3) := by decide +kernel
theorem dX4_digest_203 : decode cX4_digest 203 = .ok (.i2l, 1) := by decide +kernel
theorem dX4_digest_204 : decode cX4_digest 204 = .ok (.invokevirtual 191, 3) := by decide +kernel
theorem dX4_digest_207 : decode cX4_digest 207 = .ok (.aload_n 0, 1) := by decide +kernel
theorem dX4_digest_208 : decode cX4_digest 208 = .ok (.aload_n 0, 1) := by decide +kernel
theorem dX4_digest_209 : decode cX4_digest 209 = .ok (.iload_n 1, 1) := by decide +kernel
theorem dX4_digest_210 : decode cX4_digest 210 = .ok (.iload_n 2, 1) := by decide +kernel
theorem dX4_digest_211 : decode cX4_digest 211 = .ok (.invokevirtual 134, 3) := by decide +kernel
theorem dX4_digest_214 : decode cX4_digest 214 = .ok (.i2l, 1) := by decide +kernel
theorem dX4_digest_215 : decode cX4_digest 215 = .ok (.invokevirtual 191, 3) := by decide +kernel
theorem dX4_digest_218 : decode cX4_digest 218 = .ok (.iinc 2 1, 3) := by decide +kernel
theorem dX4_digest_221 : decode cX4_digest 221 = .ok (.goto (-43), 3) := by decide +kernel
theorem dX4_digest_224 : decode cX4_digest 224 = .ok (.iinc 1 1, 3) := by decide +kernel
theorem dX4_digest_227 : decode cX4_digest 227 = .ok (.goto (-85), 3) := by decide +kernel
theorem dX4_digest_230 : decode cX4_digest 230 = .ok (.aload_n 0, 1) := by decide +kernel
theorem dX4_digest_231 : decode cX4_digest 231 = .ok (.getfield 185, 3) := by decide +kernel
theorem dX4_digest_234 : decode cX4_digest 234 = .ok (.lreturn, 1) := by decide +kernel
end
section
/-! THE SMALL MACHINE: a walk's goal (zV) over one fixed world of 73 cells whose ints are mathematical Ints (zM). Rows z_*: one an instruction. -/
abbrev zM : Type := (Nat → Nat → Int) × (Nat → Nat → Int64)
def iI (z : Int) : Int32 := Int32.ofInt z
abbrev vI (z : Int) : Value := .int (iI z)
def zB (z : Int) : Prop := -2147483648 ≤ z ∧ z < 2147483648
theorem iI_toInt {z : Int} (h : zB z) : (iI z).toInt = z := Int32.toInt_ofInt_of_le h.1 h.2
theorem iI_self (x : Int32) : iI x.toInt = x := Int32.ofInt_toInt x
theorem iI_rng (x : Int32) : zB x.toInt := ⟨Int32.le_toInt x, Int32.toInt_lt x⟩
theorem iI_add (a b : Int) : iI a + iI b = iI (a + b) := (Int32.ofInt_add a b).symm
theorem iI_sub (a b : Int) : iI a - iI b = iI (a - b) := (Int32.ofInt_sub a b).symm
theorem iI_mul (a b : Int) : iI a * iI b = iI (a * b) := (Int32.ofInt_mul a b).symm
theorem iI_lt {a b : Int} (ha : zB a) (hb : zB b) : iI a < iI b ↔ a < b := by rw [Int32.lt_iff_toInt_lt, iI_toInt ha, iI_toInt hb]
theorem iI_le {a b : Int} (ha : zB a) (hb : zB b) : iI a ≤ iI b ↔ a ≤ b := by rw [Int32.le_iff_toInt_le, iI_toInt ha, iI_toInt hb]
theorem iI_eq {a b : Int} (ha : zB a) (hb : zB b) : iI a = iI b ↔ a = b := by rw [← Int32.toInt_inj, iI_toInt ha, iI_toInt hb]
theorem iI_0 : iI 0 = 0 := rfl
theorem zB_0 : zB 0 := ⟨by decide, by decide⟩
theorem iI_eq0 {a : Int} (ha : zB a) : iI a = 0 ↔ a = 0 := by rw [← iI_0]; exact iI_eq ha zB_0
theorem iI_lt0 {a : Int} (ha : zB a) : iI a < 0 ↔ a < 0 := by rw [← iI_0]; exact iI_lt ha zB_0
theorem iI_le0 {a : Int} (ha : zB a) : iI a ≤ 0 ↔ a ≤ 0 := by rw [← iI_0]; exact iI_le ha zB_0
theorem iI_0lt {a : Int} (ha : zB a) : 0 < iI a ↔ 0 < a := by rw [← iI_0]; exact iI_lt zB_0 ha
theorem iI_0le {a : Int} (ha : zB a) : 0 ≤ iI a ↔ 0 ≤ a := by rw [← iI_0]; exact iI_le zB_0 ha
theorem iI_clamp {a : Int} (h0 : 0 ≤ a) (h1 : a < 2147483648) : (iI a).toNatClampNeg = a.toNat := by
  show (iI a).toInt.toNat = a.toNat
  rw [iI_toInt ⟨by omega, h1⟩]
theorem iI_in {a : Int} {n : Nat} (h0 : 0 ≤ a) (h1 : a < n) (hn : n < 2147483648) : vp_in (iI a) n := by
  rw [vp_in_iff, iI_toInt ⟨by omega, by omega⟩]; exact ⟨h0, h1⟩
/-- the cell k of the world: m its ints, lg its longs -/
def zN (r : Nat) : Nat := if r = 6 then 6 else if r = 7 then 144 else if r = 4 then 48 else if r = 5 then 48 else 8
abbrev zG : Type := ClassId × ClassId × ClassId
def zC (ad : Nat → Nat) (G : zG) (k : Nat) (m : Nat → Int) (lg : Nat → Int64) : va_E :=
  if k = 0 then .inr (3, [.ref (ad 8), .ref (ad 16), .ref (ad 1), .ref (ad 3)])
  else if k = 1 then .inr (1, [.ref (ad 2), vI (m 1)])
  else if k = 2 then .inl (G.2.1, 6, .inr (.inr (.inr (.inr (fun j => some (ad (m j).toNat))))))
  else if k = 3 then .inr (0, [.ref (ad 4), vI (m 1)])
  else if k = 4 then .inl (G.1, 60, .inl (fun j => iI (m j)))
  else if k = 5 then .inr (4, [vI (m 0), .ref (ad 6), vI (m 2), .ref (ad 7), vI (m 4), vI (m 5), vI (m 6), vI (m 7), vI (m 8), vI (m 9), .long (lg 10)])
  else if k = 6 then .inl (G.1, 2256, .inl (fun j => iI (m j)))
  else if k = 7 then .inl (G.1, 60, .inl (fun j => iI (m j)))
  else if k = 72 then .inl (G.2.2, 1, .inr (.inl lg))
  else if k % 8 = 0 then .inr (2, [vI (m 0), vI (m 1), vI (m 2), vI (m 3), .ref (ad (k + 1)), .ref (ad (k + 2)), .ref (ad (k + 3)), .ref (ad (k + 4)), .ref (ad (k + 5)), .ref (ad (k + 6)), .ref (ad (k + 7))])
  else .inl (G.1, zN (k % 8), .inl (fun j => iI (m j)))
def zW (ad : Nat → Nat) (G : zG) (σ : zM) : va_W := (List.range 73).map fun k => (ad k, zC ad G k (σ.1 k) (σ.2 k))
theorem zW_get {ad : Nat → Nat} {G : zG} {σ : zM} {k : Nat} (h : k < 73) : (zW ad G σ)[k]? = some (ad k, zC ad G k (σ.1 k) (σ.2 k)) := by
  simp [zW, h]
theorem zW_len {ad : Nat → Nat} {G : zG} {σ : zM} : (zW ad G σ).length = 73 := by simp [zW]
theorem zW_set {ad : Nat → Nat} {G : zG} {σ σ' : zM} {k : Nat} {e : va_E} (hk : k < 73) (he : e = zC ad G k (σ'.1 k) (σ'.2 k)) (hn : ∀ i, i ≠ k → σ'.1 i = σ.1 i ∧ σ'.2 i = σ.2 i) : (zW ad G σ).set k (ad k, e) = zW ad G σ' := by
  apply List.ext_getElem?
  intro i
  rw [List.getElem?_set]
  by_cases h : k = i
  · subst h
    rw [if_pos rfl, if_pos (by rw [zW_len]; exact hk), zW_get hk, he]
  · rw [if_neg h]
    rcases Nat.lt_or_ge i 73 with q | q
    · rw [zW_get q, zW_get q, (hn i (fun e => h e.symm)).1, (hn i (fun e => h e.symm)).2]
    · rw [List.getElem?_eq_none (by rw [zW_len]; exact q), List.getElem?_eq_none (by rw [zW_len]; exact q)]
def zS (σ : zM) (k j : Nat) (x : Int) : zM := (fun a b => if a = k ∧ b = j then x else σ.1 a b, σ.2)
def zSL (σ : zM) (k j : Nat) (x : Int64) : zM := (σ.1, fun a b => if a = k ∧ b = j then x else σ.2 a b)
theorem zS_row (σ : zM) (k j : Nat) (x : Int) : (zS σ k j x).1 k = fun b => if b = j then x else σ.1 k b := by
  funext b; simp [zS]
theorem zSL_row (σ : zM) (k j : Nat) (x : Int64) : (zSL σ k j x).2 k = fun b => if b = j then x else σ.2 k b := by
  funext b; simp [zSL]
theorem zS_ne (σ : zM) {k j i : Nat} {x : Int} (h : i ≠ k) : (zS σ k j x).1 i = σ.1 i ∧ (zS σ k j x).2 i = σ.2 i := ⟨by funext b; simp [zS, h], rfl⟩
theorem zSL_ne (σ : zM) {k j i : Nat} {x : Int64} (h : i ≠ k) : (zSL σ k j x).1 i = σ.1 i ∧ (zSL σ k j x).2 i = σ.2 i := ⟨rfl, by funext b; simp [zSL, h]⟩
theorem zS_at (σ : zM) (k j a b : Nat) (x : Int) : (zS σ k j x).1 a b = if a = k ∧ b = j then x else σ.1 a b := rfl
def zInj (ad : Nat → Nat) : Prop := ∀ i j, i < 73 → j < 73 → ad i = ad j → i = j
def zA (ad : Nat → Nat) (sz : Nat) : Nat → Prop := fun q => (∃ k, k < 73 ∧ q = ad k) ∨ sz ≤ q
theorem zD {ad : Nat → Nat} {G : zG} {σ : zM} {A : Nat → Prop} (hi : zInj ad) (hA : ∀ k, k < 73 → A (ad k)) : va_D A (zW ad G σ) := by
  have key : ∀ (k : Nat) (q : Nat × va_E), (zW ad G σ)[k]? = some q → k < 73 ∧ q.1 = ad k := by
    intro k q h
    rcases Nat.lt_or_ge k 73 with z | z
    · rw [zW_get z] at h; cases h; exact ⟨z, rfl⟩
    · rw [List.getElem?_eq_none (by rw [zW_len]; exact z)] at h; cases h
  refine ⟨fun i j p q h1 h2 h3 => ?_, fun k q h => ?_⟩
  · obtain ⟨a1, a2⟩ := key i p h1
    obtain ⟨b1, b2⟩ := key j q h2
    exact hi i j a1 b1 (by rw [← a2, ← b2]; exact h3)
  · obtain ⟨a1, a2⟩ := key k q h
    rw [a2]; exact hA k a1
abbrev zT (G : zG) : List (ClassId × FieldType) := [(G.1, .int), (G.2.1, .object "DealDoubts$Net"), (G.2.2, .long)]
def zU : List Cond := lw_tbl.filter goodWord
theorem zU_mem {w : Cond} (i : Nat) (h : lw_tbl[i]? = some w) (g : goodWord w = true) : w ∈ zU := List.mem_filter.mpr ⟨List.mem_of_getElem? h, g⟩
theorem zU_good {w : Cond} (h : w ∈ zU) : goodWord w = true := (List.mem_filter.mp h).2
theorem zU_goodIn {ws : List Cond} (h : ∀ w ∈ ws, w ∈ zU) : GoodIn zU ws := fun w hw => ⟨h w hw, good_of_word (zU_good (h w hw))⟩
/-- local i -/
def zL (lv : List (Nat × Value)) (i : Nat) : Option Value := (lv.find? (fun q => q.1 == i)).map (·.2)
theorem zL_at {ls : Array Slot} {nL : Nat} {lv : List (Nat × Value)} (h : lv_has ls nL lv) {i : Nat} {v : Value} (hk : zL lv i = some v) : ls[i]? = some (.val v) := by
  unfold zL at hk
  obtain ⟨q, hq, hv⟩ := Option.map_eq_some_iff.mp hk
  have h1 := List.mem_of_find?_eq_some hq
  have h2 := List.find?_some hq
  have h3 := h.2.2 q h1
  have h4 : q.1 = i := by simpa using h2
  rw [h4, hv] at h3
  exact h3
def zSub (lv lv' : List (Nat × Value)) : Prop := ∀ q ∈ lv', zL lv q.1 = some q.2
theorem zSub_nil {lv : List (Nat × Value)} : zSub lv [] := fun q h => absurd h List.not_mem_nil
theorem zSub_cons {lv lv' : List (Nat × Value)} {i : Nat} {v : Value} (h : zL lv i = some v) (t : zSub lv lv') : zSub lv ((i, v) :: lv') := fun q hq => by
  rcases List.mem_cons.mp hq with rfl | hq
  · exact h
  · exact t q hq
abbrev zF1 (i : Nat) (v : Value) (lv : List (Nat × Value)) : List (Nat × Value) := (i, v) :: lv.filter (fun q => !(q.1 == i) && !(q.1 + 1 == i && q.2.category == 2))
abbrev zF2 (i : Nat) (v : Value) (lv : List (Nat × Value)) : List (Nat × Value) := (i, v) :: lv.filter (fun q => !(q.1 == i) && (!(q.1 == i + 1) && !(q.1 + 1 == i && q.2.category == 2)))
section Z
variable {p : Program} {l : Launch} {e : Env} {R : Room} {s : State} {m : MethodId} {args : Array Value} {below : List Frame} {meth : Method} {c : Code} {cc : ByteArray} {nL : Nat} {own : String} {D : va_G} {G : zG} {ad : Nat → Nat} {cells slots : Nat} {Q : State → Prop}
/-- the link of the one static method that the nets call at their nest mate -/
def zNst (U : State) : Prop := va_Nw (.methodLinkNest RX2 72 yX3_isSite RX3) U
/-- what holds all through a method's walk -/
def zX (p : Program) (s : State) (m : MethodId) (args : Array Value) (c : Code) (cc : ByteArray) (nL : Nat) (own : String) (D : va_G) (G : zG) (ad : Nat → Nat) : Prop :=
  p.tables.exec = Jvm.exec ∧ c.code = cc ∧ c.maxLocals = nL ∧ s.vm.findClass own = some m.cls ∧ (∀ w ∈ zU, w.before args s = true) ∧ va_K D vwCl (zT G) s ∧ zInj ad ∧ zNst s
/-- the walk's goal: at pc with these locals, this stack, the world σ -/
def zV (p : Program) (l : Launch) (e : Env) (R : Room) (s : State) (m : MethodId) (args : Array Value) (below : List Frame) (meth : Method) (c : Code) (nL : Nat) (D : va_G) (G : zG) (ad : Nat → Nat) (cells slots : Nat) (Q : State → Prop) (pc : Nat) (lv : List (Nat × Value)) (st : List Value) (σ : zM) : Prop :=
  ∀ (ls : Array Slot) (H : Heap) (locs : List Loc), lv_has ls nL lv → va_P D vwCl (zW ad G σ) H → va_S (zA ad s.heap.size) s.heap H locs → W p l e R s m args below meth c H locs cells slots Q (F0 m pc ls st)
variable {pc : Nat} {lv : List (Nat × Value)} {st : List Value} {σ : zM}
theorem z_sub (lv' : List (Nat × Value)) (h : zSub lv lv') (k : zV p l e R s m args below meth c nL D G ad cells slots Q pc lv' st σ) : zV p l e R s m args below meth c nL D G ad cells slots Q pc lv st σ :=
  fun ls H locs hl hP hS => k ls H locs ⟨hl.1, hl.2.1, fun q hq => zL_at hl (h q hq)⟩ hP hS
theorem z_iconst (X : zX p s m args c cc nL own D G ad) {n : Int} (d : decode cc pc = .ok (.iconst n, 1))
    (k : zV p l e R s m args below meth c nL D G ad cells slots Q (pc + 1) lv (vI n :: st) σ) : zV p l e R s m args below meth c nL D G ad cells slots Q pc lv st σ :=
  fun ls H locs hl hP hS => lv_iconst X.1 X.2.1 d rfl (k ls H locs hl hP hS)
theorem z_bipush (X : zX p s m args c cc nL own D G ad) {n : Int} (d : decode cc pc = .ok (.bipush n, 2)) (hn : (Int8.ofInt n).toInt32 = iI n)
    (k : zV p l e R s m args below meth c nL D G ad cells slots Q (pc + 2) lv (vI n :: st) σ) : zV p l e R s m args below meth c nL D G ad cells slots Q pc lv st σ :=
  fun ls H locs hl hP hS => lv_bipush X.1 X.2.1 d hn (k ls H locs hl hP hS)
theorem z_sipush (X : zX p s m args c cc nL own D G ad) {n : Int} (d : decode cc pc = .ok (.sipush n, 3)) (hn : (Int16.ofInt n).toInt32 = iI n)
    (k : zV p l e R s m args below meth c nL D G ad cells slots Q (pc + 3) lv (vI n :: st) σ) : zV p l e R s m args below meth c nL D G ad cells slots Q pc lv st σ :=
  fun ls H locs hl hP hS => lv_sipush X.1 X.2.1 d hn (k ls H locs hl hP hS)
theorem z_iload_n (X : zX p s m args c cc nL own D G ad) {i : Fin 4} {x : Int} (d : decode cc pc = .ok (.iload_n i, 1)) (hl : zL lv i.val = some (vI x))
    (k : zV p l e R s m args below meth c nL D G ad cells slots Q (pc + 1) lv (vI x :: st) σ) : zV p l e R s m args below meth c nL D G ad cells slots Q pc lv st σ :=
  fun ls H locs h hP hS => lv_iload_n X.1 X.2.1 d rfl (zL_at h hl) (k ls H locs h hP hS)
theorem z_iload (X : zX p s m args c cc nL own D G ad) {i : Nat} {x : Int} (d : decode cc pc = .ok (.iload i, 2)) (hl : zL lv i = some (vI x))
    (k : zV p l e R s m args below meth c nL D G ad cells slots Q (pc + 2) lv (vI x :: st) σ) : zV p l e R s m args below meth c nL D G ad cells slots Q pc lv st σ :=
  fun ls H locs h hP hS => lv_iload X.1 X.2.1 d (zL_at h hl) (k ls H locs h hP hS)
theorem z_aload_n (X : zX p s m args c cc nL own D G ad) {i : Fin 4} {x : Nat} (d : decode cc pc = .ok (.aload_n i, 1)) (hl : zL lv i.val = some (.ref x))
    (k : zV p l e R s m args below meth c nL D G ad cells slots Q (pc + 1) lv (.ref x :: st) σ) : zV p l e R s m args below meth c nL D G ad cells slots Q pc lv st σ :=
  fun ls H locs h hP hS => lv_aload_n X.1 X.2.1 d rfl (zL_at h hl) (k ls H locs h hP hS)
theorem z_aload (X : zX p s m args c cc nL own D G ad) {i : Nat} {x : Nat} (d : decode cc pc = .ok (.aload i, 2)) (hl : zL lv i = some (.ref x))
    (k : zV p l e R s m args below meth c nL D G ad cells slots Q (pc + 2) lv (.ref x :: st) σ) : zV p l e R s m args below meth c nL D G ad cells slots Q pc lv st σ :=
  fun ls H locs h hP hS => lv_aload X.1 X.2.1 d (zL_at h hl) (k ls H locs h hP hS)
theorem z_istore_n (X : zX p s m args c cc nL own D G ad) {i : Fin 4} {x : Int} (d : decode cc pc = .ok (.istore_n i, 1)) (hn : i.val < nL)
    (k : zV p l e R s m args below meth c nL D G ad cells slots Q (pc + 1) (zF1 i.val (vI x) lv) st σ) : zV p l e R s m args below meth c nL D G ad cells slots Q pc lv (vI x :: st) σ :=
  fun ls H locs h hP hS => lv_istore_n X.1 X.2.1 d rfl h hn rfl (fun ls' h' => k ls' H locs h' hP hS)
theorem z_istore (X : zX p s m args c cc nL own D G ad) {i : Nat} {x : Int} (d : decode cc pc = .ok (.istore i, 2)) (hn : i < nL)
    (k : zV p l e R s m args below meth c nL D G ad cells slots Q (pc + 2) (zF1 i (vI x) lv) st σ) : zV p l e R s m args below meth c nL D G ad cells slots Q pc lv (vI x :: st) σ :=
  fun ls H locs h hP hS => lv_istore X.1 X.2.1 d h hn rfl (fun ls' h' => k ls' H locs h' hP hS)
theorem z_astore_n (X : zX p s m args c cc nL own D G ad) {i : Fin 4} {x : Nat} (d : decode cc pc = .ok (.astore_n i, 1)) (hn : i.val < nL)
    (k : zV p l e R s m args below meth c nL D G ad cells slots Q (pc + 1) (zF1 i.val (.ref x) lv) st σ) : zV p l e R s m args below meth c nL D G ad cells slots Q pc lv (.ref x :: st) σ :=
  fun ls H locs h hP hS => lv_astore_n X.1 X.2.1 d rfl h hn rfl (fun ls' h' => k ls' H locs h' hP hS)
theorem z_iinc (X : zX p s m args c cc nL own D G ad) {i : Nat} {n x : Int} (d : decode cc pc = .ok (.iinc i n, 3)) (hl : zL lv i = some (vI x)) (hn : i < nL)
    (k : zV p l e R s m args below meth c nL D G ad cells slots Q (pc + 3) (zF1 i (vI (x + n)) lv) st σ) : zV p l e R s m args below meth c nL D G ad cells slots Q pc lv st σ := by
  intro ls H locs h hP hS
  obtain ⟨j, hj⟩ : ∃ j : Nat, lv[j]? = some (i, vI x) := by
    unfold zL at hl
    obtain ⟨q, hq, hv⟩ := Option.map_eq_some_iff.mp hl
    have h1 := List.mem_of_find?_eq_some hq
    have h2 := List.find?_some hq
    have h4 : q.1 = i := by simpa using h2
    obtain ⟨j, hj⟩ := List.mem_iff_getElem?.mp h1
    exact ⟨j, by rw [hj, ← h4, ← hv]⟩
  exact lv_iinc X.1 X.2.1 d h hj (iI_add x n) hn rfl (fun ls' h' => k ls' H locs h' hP hS)
theorem z_iadd (X : zX p s m args c cc nL own D G ad) {a b : Int} (d : decode cc pc = .ok (.iadd, 1))
    (k : zV p l e R s m args below meth c nL D G ad cells slots Q (pc + 1) lv (vI (a + b) :: st) σ) : zV p l e R s m args below meth c nL D G ad cells slots Q pc lv (vI b :: vI a :: st) σ :=
  fun ls H locs h hP hS => lv_iadd X.1 X.2.1 d (by rw [iI_add]; exact k ls H locs h hP hS)
theorem z_isub (X : zX p s m args c cc nL own D G ad) {a b : Int} (d : decode cc pc = .ok (.isub, 1))
    (k : zV p l e R s m args below meth c nL D G ad cells slots Q (pc + 1) lv (vI (a - b) :: st) σ) : zV p l e R s m args below meth c nL D G ad cells slots Q pc lv (vI b :: vI a :: st) σ :=
  fun ls H locs h hP hS => lv_isub X.1 X.2.1 d (by rw [iI_sub]; exact k ls H locs h hP hS)
theorem z_imul (X : zX p s m args c cc nL own D G ad) {a b : Int} (d : decode cc pc = .ok (.imul, 1))
    (k : zV p l e R s m args below meth c nL D G ad cells slots Q (pc + 1) lv (vI (a * b) :: st) σ) : zV p l e R s m args below meth c nL D G ad cells slots Q pc lv (vI b :: vI a :: st) σ :=
  fun ls H locs h hP hS => lv_imul X.1 X.2.1 d (by rw [iI_mul]; exact k ls H locs h hP hS)
theorem z_and (X : zX p s m args c cc nL own D G ad) {a b z : Int} (d : decode cc pc = .ok (.iand, 1)) (hz : iI a &&& iI b = iI z)
    (k : zV p l e R s m args below meth c nL D G ad cells slots Q (pc + 1) lv (vI z :: st) σ) : zV p l e R s m args below meth c nL D G ad cells slots Q pc lv (vI b :: vI a :: st) σ :=
  fun ls H locs h hP hS => lv_iand X.1 X.2.1 d (by rw [hz]; exact k ls H locs h hP hS)
theorem z_or (X : zX p s m args c cc nL own D G ad) {a b z : Int} (d : decode cc pc = .ok (.ior, 1)) (hz : iI a ||| iI b = iI z)
    (k : zV p l e R s m args below meth c nL D G ad cells slots Q (pc + 1) lv (vI z :: st) σ) : zV p l e R s m args below meth c nL D G ad cells slots Q pc lv (vI b :: vI a :: st) σ :=
  fun ls H locs h hP hS => lv_ior X.1 X.2.1 d (by rw [hz]; exact k ls H locs h hP hS)
theorem z_xor (X : zX p s m args c cc nL own D G ad) {a b z : Int} (d : decode cc pc = .ok (.ixor, 1)) (hz : iI a ^^^ iI b = iI z)
    (k : zV p l e R s m args below meth c nL D G ad cells slots Q (pc + 1) lv (vI z :: st) σ) : zV p l e R s m args below meth c nL D G ad cells slots Q pc lv (vI b :: vI a :: st) σ :=
  fun ls H locs h hP hS => lv_ixor X.1 X.2.1 d (by rw [hz]; exact k ls H locs h hP hS)
theorem z_shl (X : zX p s m args c cc nL own D G ad) {a b z : Int} (d : decode cc pc = .ok (.ishl, 1)) (hz : iI a <<< (iI b &&& 31) = iI z)
    (k : zV p l e R s m args below meth c nL D G ad cells slots Q (pc + 1) lv (vI z :: st) σ) : zV p l e R s m args below meth c nL D G ad cells slots Q pc lv (vI b :: vI a :: st) σ :=
  fun ls H locs h hP hS => lv_ishl X.1 X.2.1 d (by rw [hz]; exact k ls H locs h hP hS)
theorem z_shr (X : zX p s m args c cc nL own D G ad) {a b z : Int} (d : decode cc pc = .ok (.ishr, 1)) (hz : iI a >>> (iI b &&& 31) = iI z)
    (k : zV p l e R s m args below meth c nL D G ad cells slots Q (pc + 1) lv (vI z :: st) σ) : zV p l e R s m args below meth c nL D G ad cells slots Q pc lv (vI b :: vI a :: st) σ :=
  fun ls H locs h hP hS => lv_ishr X.1 X.2.1 d (by rw [hz]; exact k ls H locs h hP hS)
theorem z_dup (X : zX p s m args c cc nL own D G ad) {v : Value} (d : decode cc pc = .ok (.dup, 1)) (hv : v.category = 1)
    (k : zV p l e R s m args below meth c nL D G ad cells slots Q (pc + 1) lv (v :: v :: st) σ) : zV p l e R s m args below meth c nL D G ad cells slots Q pc lv (v :: st) σ :=
  fun ls H locs h hP hS => lv_dup X.1 X.2.1 d hv (k ls H locs h hP hS)
theorem z_dup2 (X : zX p s m args c cc nL own D G ad) {v w : Value} (d : decode cc pc = .ok (.dup2, 1)) (hv : v.category = 1) (hw : w.category = 1)
    (k : zV p l e R s m args below meth c nL D G ad cells slots Q (pc + 1) lv (v :: w :: v :: w :: st) σ) : zV p l e R s m args below meth c nL D G ad cells slots Q pc lv (v :: w :: st) σ :=
  fun ls H locs h hP hS => lv_dup2_11 X.1 X.2.1 d hv hw (k ls H locs h hP hS)
theorem z_pop (X : zX p s m args c cc nL own D G ad) {v : Value} (d : decode cc pc = .ok (.pop, 1)) (hv : v.category = 1)
    (k : zV p l e R s m args below meth c nL D G ad cells slots Q (pc + 1) lv st σ) : zV p l e R s m args below meth c nL D G ad cells slots Q pc lv (v :: st) σ :=
  fun ls H locs h hP hS => lv_pop X.1 X.2.1 d hv (k ls H locs h hP hS)
theorem z_goto (X : zX p s m args c cc nL own D G ad) {off : Int} (tgt : Nat) (d : decode cc pc = .ok (.goto off, 3)) (ht : (pc : Int) + off = (tgt : Int))
    (k : zV p l e R s m args below meth c nL D G ad cells slots Q tgt lv st σ) : zV p l e R s m args below meth c nL D G ad cells slots Q pc lv st σ :=
  fun ls H locs h hP hS => lv_goto X.1 X.2.1 d ht (k ls H locs h hP hS)
theorem z_if_eq (X : zX p s m args c cc nL own D G ad) {a off : Int} (tgt : Nat) (d : decode cc pc = .ok (.ifCond .eq off, 3)) (ht : (pc : Int) + off = (tgt : Int)) (ha : zB a)
    (kt : a = 0 → zV p l e R s m args below meth c nL D G ad cells slots Q tgt lv st σ) (kf : a ≠ 0 → zV p l e R s m args below meth c nL D G ad cells slots Q (pc + 3) lv st σ) : zV p l e R s m args below meth c nL D G ad cells slots Q pc lv (vI a :: st) σ :=
  fun ls H locs h hP hS => lv_if_eq X.1 X.2.1 d ht (fun h1 => kt ((iI_eq0 ha).mp h1) ls H locs h hP hS) (fun h1 => kf (fun h2 => h1 ((iI_eq0 ha).mpr h2)) ls H locs h hP hS)
theorem z_icmp_eq (X : zX p s m args c cc nL own D G ad) {a b off : Int} (tgt : Nat) (d : decode cc pc = .ok (.if_icmp .eq off, 3)) (ht : (pc : Int) + off = (tgt : Int)) (ha : zB a) (hb : zB b)
    (kt : a = b → zV p l e R s m args below meth c nL D G ad cells slots Q tgt lv st σ) (kf : a ≠ b → zV p l e R s m args below meth c nL D G ad cells slots Q (pc + 3) lv st σ) : zV p l e R s m args below meth c nL D G ad cells slots Q pc lv (vI b :: vI a :: st) σ :=
  fun ls H locs h hP hS => lv_icmp_eq X.1 X.2.1 d ht (fun h1 => kt ((iI_eq ha hb).mp h1) ls H locs h hP hS) (fun h1 => kf (fun h2 => h1 ((iI_eq ha hb).mpr h2)) ls H locs h hP hS)
theorem z_if_ne (X : zX p s m args c cc nL own D G ad) {a off : Int} (tgt : Nat) (d : decode cc pc = .ok (.ifCond .ne off, 3)) (ht : (pc : Int) + off = (tgt : Int)) (ha : zB a)
    (kt : a ≠ 0 → zV p l e R s m args below meth c nL D G ad cells slots Q tgt lv st σ) (kf : a = 0 → zV p l e R s m args below meth c nL D G ad cells slots Q (pc + 3) lv st σ) : zV p l e R s m args below meth c nL D G ad cells slots Q pc lv (vI a :: st) σ :=
  fun ls H locs h hP hS => lv_if_ne X.1 X.2.1 d ht (fun h1 => kt (fun h2 => h1 ((iI_eq0 ha).mpr h2)) ls H locs h hP hS) (fun h1 => kf (by first | exact (iI_eq0 ha).mp h1 | exact (iI_eq0 ha).mp (Decidable.not_not.mp h1)) ls H locs h hP hS)
theorem z_icmp_ne (X : zX p s m args c cc nL own D G ad) {a b off : Int} (tgt : Nat) (d : decode cc pc = .ok (.if_icmp .ne off, 3)) (ht : (pc : Int) + off = (tgt : Int)) (ha : zB a) (hb : zB b)
    (kt : a ≠ b → zV p l e R s m args below meth c nL D G ad cells slots Q tgt lv st σ) (kf : a = b → zV p l e R s m args below meth c nL D G ad cells slots Q (pc + 3) lv st σ) : zV p l e R s m args below meth c nL D G ad cells slots Q pc lv (vI b :: vI a :: st) σ :=
  fun ls H locs h hP hS => lv_icmp_ne X.1 X.2.1 d ht (fun h1 => kt (fun h2 => h1 ((iI_eq ha hb).mpr h2)) ls H locs h hP hS) (fun h1 => kf (by first | exact (iI_eq ha hb).mp h1 | exact (iI_eq ha hb).mp (Decidable.not_not.mp h1)) ls H locs h hP hS)
theorem z_if_lt (X : zX p s m args c cc nL own D G ad) {a off : Int} (tgt : Nat) (d : decode cc pc = .ok (.ifCond .lt off, 3)) (ht : (pc : Int) + off = (tgt : Int)) (ha : zB a)
    (kt : a < 0 → zV p l e R s m args below meth c nL D G ad cells slots Q tgt lv st σ) (kf : 0 ≤ a → zV p l e R s m args below meth c nL D G ad cells slots Q (pc + 3) lv st σ) : zV p l e R s m args below meth c nL D G ad cells slots Q pc lv (vI a :: st) σ :=
  fun ls H locs h hP hS => lv_if_lt X.1 X.2.1 d ht (fun h1 => kt ((iI_lt0 ha).mp h1) ls H locs h hP hS) (fun h1 => kf (Int.not_lt.mp (fun h2 => h1 ((iI_lt0 ha).mpr h2))) ls H locs h hP hS)
theorem z_icmp_lt (X : zX p s m args c cc nL own D G ad) {a b off : Int} (tgt : Nat) (d : decode cc pc = .ok (.if_icmp .lt off, 3)) (ht : (pc : Int) + off = (tgt : Int)) (ha : zB a) (hb : zB b)
    (kt : a < b → zV p l e R s m args below meth c nL D G ad cells slots Q tgt lv st σ) (kf : b ≤ a → zV p l e R s m args below meth c nL D G ad cells slots Q (pc + 3) lv st σ) : zV p l e R s m args below meth c nL D G ad cells slots Q pc lv (vI b :: vI a :: st) σ :=
  fun ls H locs h hP hS => lv_icmp_lt X.1 X.2.1 d ht (fun h1 => kt ((iI_lt ha hb).mp h1) ls H locs h hP hS) (fun h1 => kf (Int.not_lt.mp (fun h2 => h1 ((iI_lt ha hb).mpr h2))) ls H locs h hP hS)
theorem z_if_ge (X : zX p s m args c cc nL own D G ad) {a off : Int} (tgt : Nat) (d : decode cc pc = .ok (.ifCond .ge off, 3)) (ht : (pc : Int) + off = (tgt : Int)) (ha : zB a)
    (kt : 0 ≤ a → zV p l e R s m args below meth c nL D G ad cells slots Q tgt lv st σ) (kf : a < 0 → zV p l e R s m args below meth c nL D G ad cells slots Q (pc + 3) lv st σ) : zV p l e R s m args below meth c nL D G ad cells slots Q pc lv (vI a :: st) σ :=
  fun ls H locs h hP hS => lv_if_ge X.1 X.2.1 d ht (fun h1 => kt ((iI_0le ha).mp h1) ls H locs h hP hS) (fun h1 => kf (Int.not_le.mp (fun h2 => h1 ((iI_0le ha).mpr h2))) ls H locs h hP hS)
theorem z_icmp_ge (X : zX p s m args c cc nL own D G ad) {a b off : Int} (tgt : Nat) (d : decode cc pc = .ok (.if_icmp .ge off, 3)) (ht : (pc : Int) + off = (tgt : Int)) (ha : zB a) (hb : zB b)
    (kt : b ≤ a → zV p l e R s m args below meth c nL D G ad cells slots Q tgt lv st σ) (kf : a < b → zV p l e R s m args below meth c nL D G ad cells slots Q (pc + 3) lv st σ) : zV p l e R s m args below meth c nL D G ad cells slots Q pc lv (vI b :: vI a :: st) σ :=
  fun ls H locs h hP hS => lv_icmp_ge X.1 X.2.1 d ht (fun h1 => kt ((iI_le hb ha).mp h1) ls H locs h hP hS) (fun h1 => kf (Int.not_le.mp (fun h2 => h1 ((iI_le hb ha).mpr h2))) ls H locs h hP hS)
theorem z_if_gt (X : zX p s m args c cc nL own D G ad) {a off : Int} (tgt : Nat) (d : decode cc pc = .ok (.ifCond .gt off, 3)) (ht : (pc : Int) + off = (tgt : Int)) (ha : zB a)
    (kt : 0 < a → zV p l e R s m args below meth c nL D G ad cells slots Q tgt lv st σ) (kf : a ≤ 0 → zV p l e R s m args below meth c nL D G ad cells slots Q (pc + 3) lv st σ) : zV p l e R s m args below meth c nL D G ad cells slots Q pc lv (vI a :: st) σ :=
  fun ls H locs h hP hS => lv_if_gt X.1 X.2.1 d ht (fun h1 => kt ((iI_0lt ha).mp h1) ls H locs h hP hS) (fun h1 => kf (Int.not_lt.mp (fun h2 => h1 ((iI_0lt ha).mpr h2))) ls H locs h hP hS)
theorem z_icmp_gt (X : zX p s m args c cc nL own D G ad) {a b off : Int} (tgt : Nat) (d : decode cc pc = .ok (.if_icmp .gt off, 3)) (ht : (pc : Int) + off = (tgt : Int)) (ha : zB a) (hb : zB b)
    (kt : b < a → zV p l e R s m args below meth c nL D G ad cells slots Q tgt lv st σ) (kf : a ≤ b → zV p l e R s m args below meth c nL D G ad cells slots Q (pc + 3) lv st σ) : zV p l e R s m args below meth c nL D G ad cells slots Q pc lv (vI b :: vI a :: st) σ :=
  fun ls H locs h hP hS => lv_icmp_gt X.1 X.2.1 d ht (fun h1 => kt ((iI_lt hb ha).mp h1) ls H locs h hP hS) (fun h1 => kf (Int.not_lt.mp (fun h2 => h1 ((iI_lt hb ha).mpr h2))) ls H locs h hP hS)
theorem z_if_le (X : zX p s m args c cc nL own D G ad) {a off : Int} (tgt : Nat) (d : decode cc pc = .ok (.ifCond .le off, 3)) (ht : (pc : Int) + off = (tgt : Int)) (ha : zB a)
    (kt : a ≤ 0 → zV p l e R s m args below meth c nL D G ad cells slots Q tgt lv st σ) (kf : 0 < a → zV p l e R s m args below meth c nL D G ad cells slots Q (pc + 3) lv st σ) : zV p l e R s m args below meth c nL D G ad cells slots Q pc lv (vI a :: st) σ :=
  fun ls H locs h hP hS => lv_if_le X.1 X.2.1 d ht (fun h1 => kt ((iI_le0 ha).mp h1) ls H locs h hP hS) (fun h1 => kf (Int.not_le.mp (fun h2 => h1 ((iI_le0 ha).mpr h2))) ls H locs h hP hS)
theorem z_icmp_le (X : zX p s m args c cc nL own D G ad) {a b off : Int} (tgt : Nat) (d : decode cc pc = .ok (.if_icmp .le off, 3)) (ht : (pc : Int) + off = (tgt : Int)) (ha : zB a) (hb : zB b)
    (kt : a ≤ b → zV p l e R s m args below meth c nL D G ad cells slots Q tgt lv st σ) (kf : b < a → zV p l e R s m args below meth c nL D G ad cells slots Q (pc + 3) lv st σ) : zV p l e R s m args below meth c nL D G ad cells slots Q pc lv (vI b :: vI a :: st) σ :=
  fun ls H locs h hP hS => lv_icmp_le X.1 X.2.1 d ht (fun h1 => kt ((iI_le ha hb).mp h1) ls H locs h hP hS) (fun h1 => kf (Int.not_le.mp (fun h2 => h1 ((iI_le ha hb).mpr h2))) ls H locs h hP hS)
end Z
end
section
/-! THE SMALL MACHINE, second half: fields, arrays, calls, returns -/
def zArr (q n : Nat) : Prop := q < 73 ∧ ∀ (ad : Nat → Nat) (G : zG) (m : Nat → Int) (lg : Nat → Int64), zC ad G q m lg = .inl (G.1, n, .inl (fun j => iI (m j)))
def zNet (k : Nat) : Prop := 8 ≤ k ∧ k < 72 ∧ k % 8 = 0
theorem zNet_obj {k : Nat} (h : zNet k) (ad : Nat → Nat) (G : zG) (m : Nat → Int) (lg : Nat → Int64) : zC ad G k m lg = .inr (2, [vI (m 0), vI (m 1), vI (m 2), vI (m 3), .ref (ad (k + 1)), .ref (ad (k + 2)), .ref (ad (k + 3)), .ref (ad (k + 4)), .ref (ad (k + 5)), .ref (ad (k + 6)), .ref (ad (k + 7))]) := by
  obtain ⟨h1, h2, h3⟩ := h
  unfold zC
  rw [if_neg (by omega), if_neg (by omega), if_neg (by omega), if_neg (by omega), if_neg (by omega), if_neg (by omega), if_neg (by omega), if_neg (by omega), if_neg (by omega), if_pos h3]
theorem zNet_arr {k : Nat} (h : zNet k) (r : Nat) (h1 : 1 ≤ r) (h2 : r ≤ 7) : zArr (k + r) (zN r) := by
  obtain ⟨a1, a2, a3⟩ := h
  refine ⟨by omega, fun ad G m lg => ?_⟩
  have e : (k + r) % 8 = r := by omega
  unfold zC
  rw [if_neg (by omega), if_neg (by omega), if_neg (by omega), if_neg (by omega), if_neg (by omega), if_neg (by omega), if_neg (by omega), if_neg (by omega), if_neg (by omega), if_neg (by omega), e]
theorem zArr_4 : zArr 4 60 := ⟨by decide, fun _ _ _ _ => rfl⟩
theorem zArr_6 : zArr 6 2256 := ⟨by decide, fun _ _ _ _ => rfl⟩
theorem zArr_7 : zArr 7 60 := ⟨by decide, fun _ _ _ _ => rfl⟩
theorem zNet_lt {k : Nat} (h : zNet k) : k < 73 := by have := h.2.1; omega
/-- the words of a class's fields -/
theorem zin0 : ∀ w ∈ u_ws RX0 TX0 2, w ∈ lw_tbl := by decide +kernel
theorem zin1 : ∀ w ∈ u_ws RX1 TX1 2, w ∈ lw_tbl := by decide +kernel
theorem zin2 : ∀ w ∈ u_ws RX2 TX2 11, w ∈ lw_tbl := by decide +kernel
theorem zin3 : ∀ w ∈ u_ws RX3 TX3 4, w ∈ lw_tbl := by decide +kernel
theorem zin4 : ∀ w ∈ u_ws RX4 TX4 11, w ∈ lw_tbl := by decide +kernel
theorem zin_g0 : (u_ws RX0 TX0 2).all goodWord = true := by decide +kernel
theorem zin_g1 : (u_ws RX1 TX1 2).all goodWord = true := by decide +kernel
theorem zin_g2 : (u_ws RX2 TX2 11).all goodWord = true := by decide +kernel
theorem zin_g3 : (u_ws RX3 TX3 4).all goodWord = true := by decide +kernel
theorem zin_g4 : (u_ws RX4 TX4 11).all goodWord = true := by decide +kernel
theorem zin_u {ws : List Cond} (h : ∀ w ∈ ws, w ∈ lw_tbl) (g : ws.all goodWord = true) : ∀ w ∈ ws, w ∈ zU := fun w hw => List.mem_filter.mpr ⟨h w hw, List.all_eq_true.mp g w hw⟩
/-- what a field access needs of the tables: class number ci, its table, the link of the pool's number -/
def zFld (own : String) (index ci f : Nat) (C : String) (T : u_T) (N : Nat) : Prop := vwCl[ci]? = some (C, T, N) ∧ f < N ∧ (∀ w ∈ u_ws C T N, w ∈ zU) ∧ Cond.fieldLink own index (T f).1 (T f).2.1 (T f).2.2.1 ∈ zU
def zRm (d : Nat) : Room := { frames := d, cells := 0, slots := 0, locals := 30 * d }
section Z2
variable {p : Program} {l : Launch} {e : Env} {R : Room} {s : State} {m : MethodId} {args : Array Value} {below : List Frame} {meth : Method} {c : Code} {cc : ByteArray} {nL : Nat} {own : String} {D : va_G} {G : zG} {ad : Nat → Nat} {cells slots : Nat} {Q : State → Prop}
variable {pc : Nat} {lv : List (Nat × Value)} {st : List Value} {σ : zM}
theorem zA_old {H : Heap} {locs : List Loc} (hS : va_S (zA ad s.heap.size) s.heap H locs) : ∀ q, q < H.size → zA ad H.size q → zA ad s.heap.size q := fun q h1 h2 => by
  rcases h2 with h | h
  · exact Or.inl h
  · exact absurd h (Nat.not_le.mpr h1)
theorem zA_free {H : Heap} {locs : List Loc} (hS : va_S (zA ad s.heap.size) s.heap H locs) : ∀ q, zA ad H.size q → zA ad s.heap.size q := fun q h2 => by
  rcases h2 with h | h
  · exact Or.inl h
  · exact Or.inr (Nat.le_trans hS.1 h)
theorem zD_here (hi : zInj ad) : va_D (zA ad s.heap.size) (zW ad G σ) := zD hi (fun k hk => Or.inl ⟨k, hk, rfl⟩)
/-- a field of the object at the cell k is read -/
theorem z_get (X : zX p s m args c cc nL own D G ad) {index ci f k : Nat} {C : String} {T : u_T} {N : Nat} {fs : List Value} {v : Value} (F : zFld own index ci f C T N) (hk : k < 73) (hc : zC ad G k (σ.1 k) (σ.2 k) = .inr (ci, fs)) (hv : fs[f]? = some v) (d : decode cc pc = .ok (.getfield index, 3))
    (kk : zV p l e R s m args below meth c nL D G ad cells slots Q (pc + 3) lv (v :: st) σ) : zV p l e R s m args below meth c nL D G ad cells slots Q pc lv (.ref (ad k) :: st) σ :=
  fun ls H locs h hP hS => va_get (D := D) (ref := (T f).1) X.1 X.2.1 X.2.2.2.2.1 F.2.2.1 X.2.2.2.1 X.2.2.2.2.2.1 hP k (by rw [zW_get hk, hc]) F.1 f F.2.1 (X.2.2.2.2.1 _ F.2.2.2) (fun _ h9 => h9) hv d (kk ls H locs h hP hS)
/-- an int field of the object at the cell k is written -/
theorem z_putI (X : zX p s m args c cc nL own D G ad) {index ci f k : Nat} {C : String} {T : u_T} {N : Nat} {fs : List Value} {x : Int} (F : zFld own index ci f C T N) (ty0 : Nat → FieldType) (hty : ∀ k, k < N → parseFieldDescriptor (T k).2.2.1 = some (ty0 k)) (hnm : ∀ a, a < N → ∀ b, b < N → a ≠ b → (T a).2.1 ≠ (T b).2.1) (hk : k < 73) (hc : zC ad G k (σ.1 k) (σ.2 k) = .inr (ci, fs)) (hc2 : .inr (ci, fs.set f (vI x)) = zC ad G k (fun b => if b = f then x else σ.1 k b) (σ.2 k)) (hl : f < fs.length) (hfin : (T f).2.2.2 = false) (hd : parseFieldDescriptor (T f).2.2.1 = some .int) (d : decode cc pc = .ok (.putfield index, 3))
    (kk : zV p l e R s m args below meth c nL D G ad cells slots Q (pc + 3) lv st (zS σ k f x)) : zV p l e R s m args below meth c nL D G ad cells slots Q pc lv (vI x :: .ref (ad k) :: st) σ :=
  fun ls H locs h hP hS => va_put (D := D) (ref := (T f).1) X.1 X.2.1 X.2.2.2.2.1 F.2.2.1 ty0 hty hnm X.2.2.2.1 X.2.2.2.2.2.1 hP (zD_here X.2.2.2.2.2.2.1) hS k (by rw [zW_get hk, hc]) F.1 f F.2.1 (X.2.2.2.2.1 _ F.2.2.2) (fun _ h9 => h9) hfin hd rfl rfl hl d (fun H1 locs1 hP1 _ hS1 => kk ls H1 locs1 h (by rw [zW_set (σ' := zS σ k f x) hk (by rw [zS_row]; exact hc2) (fun i hi => zS_ne σ hi)] at hP1; exact hP1) hS1)
/-- the long field of the reference -/
theorem z_putL (X : zX p s m args c cc nL own D G ad) {index ci f k : Nat} {C : String} {T : u_T} {N : Nat} {fs : List Value} {x : Int64} (F : zFld own index ci f C T N) (ty0 : Nat → FieldType) (hty : ∀ k, k < N → parseFieldDescriptor (T k).2.2.1 = some (ty0 k)) (hnm : ∀ a, a < N → ∀ b, b < N → a ≠ b → (T a).2.1 ≠ (T b).2.1) (hk : k < 73) (hc : zC ad G k (σ.1 k) (σ.2 k) = .inr (ci, fs)) (hc2 : .inr (ci, fs.set f (.long x)) = zC ad G k (σ.1 k) (fun b => if b = f then x else σ.2 k b)) (hl : f < fs.length) (hfin : (T f).2.2.2 = false) (hd : parseFieldDescriptor (T f).2.2.1 = some .long) (d : decode cc pc = .ok (.putfield index, 3))
    (kk : zV p l e R s m args below meth c nL D G ad cells slots Q (pc + 3) lv st (zSL σ k f x)) : zV p l e R s m args below meth c nL D G ad cells slots Q pc lv (.long x :: .ref (ad k) :: st) σ :=
  fun ls H locs h hP hS => va_put (D := D) (ref := (T f).1) X.1 X.2.1 X.2.2.2.2.1 F.2.2.1 ty0 hty hnm X.2.2.2.1 X.2.2.2.2.2.1 hP (zD_here X.2.2.2.2.2.2.1) hS k (by rw [zW_get hk, hc]) F.1 f F.2.1 (X.2.2.2.2.1 _ F.2.2.2) (fun _ h9 => h9) hfin hd rfl rfl hl d (fun H1 locs1 hP1 _ hS1 => kk ls H1 locs1 h (by rw [zW_set (σ' := zSL σ k f x) hk (by rw [zSL_row]; exact hc2) (fun i hi => zSL_ne σ hi)] at hP1; exact hP1) hS1)
theorem z_iald (X : zX p s m args c cc nL own D G ad) {q n : Nat} {i : Int} (A : zArr q n) (h0 : 0 ≤ i) (h1 : i < n) (hn : n < 2147483648) (d : decode cc pc = .ok (.iaload, 1))
    (kk : zV p l e R s m args below meth c nL D G ad cells slots Q (pc + 1) lv (vI (σ.1 q i.toNat) :: st) σ) : zV p l e R s m args below meth c nL D G ad cells slots Q pc lv (vI i :: .ref (ad q) :: st) σ :=
  fun ls H locs h hP hS => va_iald (D := D) X.1 X.2.1 X.2.2.2.2.2.1 hP q 0 (by rw [zW_get A.1, A.2]) rfl (iI_in h0 h1 hn) d (by rw [iI_clamp h0 (by omega)]; exact kk ls H locs h hP hS)
theorem z_iast (X : zX p s m args c cc nL own D G ad) {q n : Nat} {i x : Int} (A : zArr q n) (h0 : 0 ≤ i) (h1 : i < n) (hn : n < 2147483648) (d : decode cc pc = .ok (.iastore, 1))
    (kk : zV p l e R s m args below meth c nL D G ad cells slots Q (pc + 1) lv st (zS σ q i.toNat x)) : zV p l e R s m args below meth c nL D G ad cells slots Q pc lv (vI x :: vI i :: .ref (ad q) :: st) σ :=
  fun ls H locs h hP hS => va_iast (D := D) X.1 X.2.1 X.2.2.2.2.2.1 hP (zD_here X.2.2.2.2.2.2.1) hS q 0 (by rw [zW_get A.1, A.2]) rfl (iI_in h0 h1 hn) d (fun H1 locs1 hP1 _ hS1 => kk ls H1 locs1 h (by
    rw [zW_set (σ' := zS σ q i.toNat x) A.1 (by
      rw [zS_row, A.2, iI_clamp h0 (by omega)]
      refine congrArg (fun f => Sum.inl (G.1, n, Sum.inl f)) (funext fun j => ?_)
      show (if j = i.toNat then iI x else iI (σ.1 q j)) = iI (if j = i.toNat then x else σ.1 q j)
      by_cases e : j = i.toNat
      · rw [if_pos e, if_pos e]
      · rw [if_neg e, if_neg e]) (fun i hi => zS_ne σ hi)] at hP1
    exact hP1) hS1)
theorem z_alen (X : zX p s m args c cc nL own D G ad) {q n : Nat} (A : zArr q n) (d : decode cc pc = .ok (.arraylength, 1))
    (kk : zV p l e R s m args below meth c nL D G ad cells slots Q (pc + 1) lv (vI n :: st) σ) : zV p l e R s m args below meth c nL D G ad cells slots Q pc lv (.ref (ad q) :: st) σ :=
  fun ls H locs h hP hS => va_alen (D := D) (v := iI n) X.1 X.2.1 X.2.2.2.2.2.1 hP q 0 (by rw [zW_get A.1, A.2]) (ty := .int) rfl (by show Int32.ofNat n = Int32.ofInt n; exact (Int32.ofInt_eq_ofNat).symm) d (kk ls H locs h hP hS)
/-- the saved states' row -/
theorem z_aald (X : zX p s m args c cc nL own D G ad) {i : Int} (h0 : 0 ≤ i) (h1 : i < 6) (d : decode cc pc = .ok (.aaload, 1))
    (kk : zV p l e R s m args below meth c nL D G ad cells slots Q (pc + 1) lv (.ref (ad (σ.1 2 i.toNat).toNat) :: st) σ) : zV p l e R s m args below meth c nL D G ad cells slots Q pc lv (vI i :: .ref (ad 2) :: st) σ :=
  fun ls H locs h hP hS => va_aldq (D := D) X.1 X.2.1 X.2.2.2.2.2.1 hP 2 1 (by rw [zW_get (by decide)]; rfl) rfl (iI_in h0 h1 (by decide)) d (by rw [iI_clamp h0 (by omega)]; exact kk ls H locs h hP hS)
theorem z_aast (X : zX p s m args c cc nL own D G ad) {i : Int} {k : Nat} (N : zNet k) (h0 : 0 ≤ i) (h1 : i < 6) (d : decode cc pc = .ok (.aastore, 1))
    (kk : zV p l e R s m args below meth c nL D G ad cells slots Q (pc + 1) lv st (zS σ 2 i.toNat k)) : zV p l e R s m args below meth c nL D G ad cells slots Q pc lv (.ref (ad k) :: vI i :: .ref (ad 2) :: st) σ :=
  fun ls H locs h hP hS => va_astq (D := D) X.1 X.2.1 X.2.2.2.2.2.1 hP (zD_here X.2.2.2.2.2.2.1) hS 2 1 k 2 (r := (RX2, TX2, 11)) (by rw [zW_get (by decide)]; rfl) rfl (by rw [zW_get (zNet_lt N), zNet_obj N]) rfl (iI_in h0 h1 (by decide)) d (fun H1 locs1 hP1 _ hS1 => kk ls H1 locs1 h (by
    rw [zW_set (σ' := zS σ 2 i.toNat k) (by decide) (by
      rw [zS_row, iI_clamp h0 (by omega)]
      refine congrArg (fun f => Sum.inl (G.2.1, 6, Sum.inr (Sum.inr (Sum.inr (Sum.inr f))))) (funext fun j => ?_)
      show (if j = i.toNat then some (ad k) else some (ad (σ.1 2 j).toNat)) = some (ad (if j = i.toNat then (k : Int) else σ.1 2 j).toNat)
      by_cases e : j = i.toNat
      · rw [if_pos e, if_pos e]; rfl
      · rw [if_neg e, if_neg e]) (fun i hi => zS_ne σ hi)] at hP1
    exact hP1) hS1)
theorem z_null (X : zX p s m args c cc nL own D G ad) {x : Nat} {off : Int} (d : decode cc pc = .ok (.ifnull off, 3))
    (kk : zV p l e R s m args below meth c nL D G ad cells slots Q (pc + 3) lv st σ) : zV p l e R s m args below meth c nL D G ad cells slots Q pc lv (.ref x :: st) σ :=
  fun ls H locs h hP hS => lv_ifnull X.1 X.2.1 d (kk ls H locs h hP hS)
/-- contracts: a method that gives an int (or a truth value), void, a long -/
def zPc (D : va_G) (G : zG) (ad : Nat → Nat) (av : List Value) (σ : zM) (sz : Nat) : Array Value → State → Prop := va_Pc av (fun U => U.heap.size = sz ∧ va_P D vwCl (zW ad G σ) U.heap ∧ va_K D vwCl (zT G) U ∧ zNst U)
def zQI (D : va_G) (G : zG) (ad : Nat → Nat) (sz : Nat) (Post : Int → zM → Prop) : Array Value → State → Outcome → State → Prop := va_Qi (fun r σ' => ∃ z, r = iI z ∧ Post z σ') (fun σ' t => va_P D vwCl (zW ad G σ') t.heap) (zA ad sz)
def zQV (D : va_G) (G : zG) (ad : Nat → Nat) (sz : Nat) (Post : zM → Prop) : Array Value → State → Outcome → State → Prop := va_Qv Post (fun σ' t => va_P D vwCl (zW ad G σ') t.heap) (zA ad sz)
def zQL (D : va_G) (G : zG) (ad : Nat → Nat) (sz : Nat) (Post : Int64 → zM → Prop) : Array Value → State → Outcome → State → Prop := va_Ql Post (fun σ' t => va_P D vwCl (zW ad G σ') t.heap) (zA ad sz)
def zKI (l : Launch) (D : va_G) (G : zG) (ad : Nat → Nat) (y : MethodName) (bytes : ByteArray) (maxL : Nat) (ret : Option FieldType) (d : Nat) (av : List Value) (σ : zM) (Post : Int → zM → Prop) : Prop :=
  ∀ sz, Met l y (.code y bytes maxL ret :: zU) (zRm d) (zPc D G ad av σ sz) (zQI D G ad sz Post) 0 0 (zA ad sz)
def zKV (l : Launch) (D : va_G) (G : zG) (ad : Nat → Nat) (y : MethodName) (bytes : ByteArray) (maxL : Nat) (ret : Option FieldType) (d : Nat) (av : List Value) (σ : zM) (Post : zM → Prop) : Prop :=
  ∀ sz, Met l y (.code y bytes maxL ret :: zU) (zRm d) (zPc D G ad av σ sz) (zQV D G ad sz Post) 0 0 (zA ad sz)
def zKL (l : Launch) (D : va_G) (G : zG) (ad : Nat → Nat) (y : MethodName) (bytes : ByteArray) (maxL : Nat) (ret : Option FieldType) (d : Nat) (av : List Value) (σ : zM) (Post : Int64 → zM → Prop) : Prop :=
  ∀ sz, Met l y (.code y bytes maxL ret :: zU) (zRm d) (zPc D G ad av σ sz) (zQL D G ad sz Post) 0 0 (zA ad sz)
/-- the walk's end -/
def zE (below : List Frame) (Qc : Array Value → State → Outcome → State → Prop) (args : Array Value) (s : State) (ad : Nat → Nat) : State → Prop := MQ below Qc args s 0 0 (zA ad s.heap.size)
theorem z_blind {av : List Value} {sz : Nat} : FrameBlind (zPc D G ad av σ sz) := fun a U g mk q => by
  obtain ⟨e1, e2, e3, e4, e5⟩ := q
  exact ⟨e1, e2, e3, va_K.moved (u := U) (U := U.calling g mk a) (Vm.Alike.refl U.vm) e4, va_Nw.same rfl rfl e5⟩
theorem z_open {y : MethodName} {bytes : ByteArray} {maxL : Nat} {ret : Option FieldType} {d : Nat} {av : List Value} {sz : Nat} {Qc : Array Value → State → Outcome → State → Prop} (hi : zInj ad) (hy : plainName y.cls = true) (hav : (lg_sl av).length ≤ maxL)
    (body : ∀ (p : Program) (e : Env) (s : State) (m : MethodId) (args : Array Value) (below : List Frame) (meth : Method) (c : Code), s.heap.size = sz → zX p s m args c bytes maxL y.cls D G ad → meth.sig.returnType = ret → meth.locks = false → zV p l e (zRm d) s m args below meth c maxL D G ad 0 0 (zE below Qc args s ad) 0 (lv_args 0 av) [] σ) :
    Met l y (.code y bytes maxL ret :: zU) (zRm d) (zPc D G ad av σ sz) Qc 0 0 (zA ad sz) := by
  refine Met.ofW (cc := bytes) (maxL := maxL) (ret := ret) hy rfl ?_
  intro p e s m args below meth c s₁ B hml hv
  obtain ⟨rfl, hsz, hP, hK, hN⟩ := hv
  have hts := atoms_spec (ws := Cond.code y bytes maxL ret :: zU) B.pre
  have hl := lv_entry av (n := maxL) hav
  rw [lg_entry_eq]
  have h := body p e s m _ below meth c hsz ⟨B.exec, B.bytes, hml, findClass_of_methodNamed B.named, fun w hw => hts w (List.mem_cons_of_mem _ hw), hK, hi, hN⟩ B.returns B.notSynchronized
  subst hsz
  exact h _ s.heap [] hl hP va_S.rf
theorem z_iret (X : zX p s m args c cc nL own D G ad) {sz : Nat} {z : Int} {Post : Int → zM → Prop} (hsz : s.heap.size = sz) (hr : meth.sig.returnType = some .int) (hlocks : meth.locks = false) (d : decode cc pc = .ok (.ireturn, 1)) (hq : Post z σ) : zV p l e R s m args below meth c nL D G ad 0 0 (zE below (zQI D G ad sz Post) args s ad) pc lv [vI z] σ := by
  subst hsz
  exact fun ls H locs h hP hS => W.iret X.1 X.2.1 hr (fun t ht hW => ⟨⟨iI z, σ, rfl, ⟨z, rfl, hq⟩, (ht.symm ▸ hP : va_P D vwCl (zW ad G σ) t.heap)⟩, hS.F ht⟩) hS.2.2 d hlocks
theorem z_zret (X : zX p s m args c cc nL own D G ad) {sz : Nat} {z : Int} {Post : Int → zM → Prop} (hsz : s.heap.size = sz) (hr : meth.sig.returnType = some .boolean) (hlocks : meth.locks = false) (d : decode cc pc = .ok (.ireturn, 1)) (h01 : z = 0 ∨ z = 1) (hq : Post z σ) : zV p l e R s m args below meth c nL D G ad 0 0 (zE below (zQI D G ad sz Post) args s ad) pc lv [vI z] σ := by
  subst hsz
  exact fun ls H locs h hP hS => W.zret X.1 X.2.1 hr (by rcases h01 with rfl | rfl <;> rfl) (fun t ht hW => ⟨⟨iI z, σ, rfl, ⟨z, rfl, hq⟩, (ht.symm ▸ hP : va_P D vwCl (zW ad G σ) t.heap)⟩, hS.F ht⟩) hS.2.2 d hlocks
theorem z_vret (X : zX p s m args c cc nL own D G ad) {sz : Nat} {Post : zM → Prop} (hsz : s.heap.size = sz) (hr : meth.sig.returnType = none) (hlocks : meth.locks = false) (d : decode cc pc = .ok (.return_, 1)) (hq : Post σ) : zV p l e R s m args below meth c nL D G ad 0 0 (zE below (zQV D G ad sz Post) args s ad) pc lv [] σ := by
  subst hsz
  exact fun ls H locs h hP hS => W.vret X.1 X.2.1 hr (fun t ht hW => ⟨⟨σ, rfl, hq, (ht.symm ▸ hP : va_P D vwCl (zW ad G σ) t.heap)⟩, hS.F ht⟩) hS.2.2 d hlocks
theorem z_lret (X : zX p s m args c cc nL own D G ad) {sz : Nat} {z : Int64} {Post : Int64 → zM → Prop} (hsz : s.heap.size = sz) (hr : meth.sig.returnType = some .long) (hlocks : meth.locks = false) (d : decode cc pc = .ok (.lreturn, 1)) (hq : Post z σ) : zV p l e R s m args below meth c nL D G ad 0 0 (zE below (zQL D G ad sz Post) args s ad) pc lv [.long z] σ := by
  subst hsz
  exact fun ls H locs h hP hS => W.lret X.1 X.2.1 hr (fun t ht hW => ⟨⟨z, σ, rfl, hq, (ht.symm ▸ hP : va_P D vwCl (zW ad G σ) t.heap)⟩, hS.F ht⟩) hS.2.2 d hlocks
/-- what a call needs of the tables -/
def zLkV (own : String) (idx : Nat) (C : String) (y : MethodName) (bytes : ByteArray) (maxL : Nat) (ret : Option FieldType) (n : Nat) : Prop :=
  (∀ w ∈ wsV own idx C y [Cond.code y bytes maxL ret], w ∈ zU) ∧ (y.cls = C ∧ y.cls ≠ "java/lang/invoke/MethodHandle" ∧ y.cls ≠ "java/lang/invoke/VarHandle" ∧ (parseMethodDescriptor y.desc).map (fun d => d.parameters.length) = some n)
def zLkS (own : String) (idx : Nat) (y : MethodName) (bytes : ByteArray) (maxL : Nat) (ret : Option FieldType) (n : Nat) : Prop :=
  (∀ w ∈ wsS own idx y [Cond.code y bytes maxL ret], w ∈ zU) ∧ (y.cls = own ∧ y.cls ≠ "java/lang/invoke/MethodHandle" ∧ y.cls ≠ "java/lang/invoke/VarHandle" ∧ (parseMethodDescriptor y.desc).map (fun d => d.parameters.length) = some n)
theorem zLk_all {y : MethodName} {bytes : ByteArray} {maxL : Nat} {ret : Option FieldType} {pre : List Cond} (h : ∀ w ∈ pre ++ [Cond.code y bytes maxL ret], w ∈ zU) : ∀ w ∈ pre ++ (Cond.code y bytes maxL ret :: zU), w ∈ zU := fun w hw => by
  rcases List.mem_append.mp hw with q | q
  · exact h w (List.mem_append_left _ q)
  · rcases List.mem_cons.mp q with rfl | q
    · exact h _ (List.mem_append_right _ List.mem_cons_self)
    · exact q
theorem z_runV (X : zX p s m args c cc nL own D G ad) {idx ci k n maxL d sz : Nat} {C : String} {T : u_T} {N : Nat} {y : MethodName} {bytes : ByteArray} {ret : Option FieldType} {As fs : List Value} {Qc : Array Value → State → Outcome → State → Prop}
    (hM : Met l y (.code y bytes maxL ret :: zU) (zRm d) (zPc D G ad (.ref (ad k) :: As) σ sz) Qc 0 0 (zA ad sz)) (K : zLkV own idx C y bytes maxL ret n) (hcl : vwCl[ci]? = some (C, T, N)) (hk : k < 73) (hc : zC ad G k (σ.1 k) (σ.2 k) = .inr (ci, fs)) (hn : As.length = n) (hR : d + 1 ≤ R.frames ∧ 8 + (maxL + 11) + 30 * d ≤ R.locals) (hW : (st.map fun v => v.category).sum ≤ 8) (dd : decode cc pc = .ok (.invokevirtual idx, 3))
    {ls : Array Slot} {H : Heap} {locs : List Loc} (hsz : H.size = sz) (h : lv_has ls nL lv) (hP : va_P D vwCl (zW ad G σ) H) (hS : va_S (zA ad s.heap.size) s.heap H locs) (hcs : cells ≤ R.cells ∧ slots ≤ R.slots) :
    va_Run p l e R s m args below meth c H locs cells slots 0 0 (F0 m pc ls (As.reverse ++ .ref (ad k) :: st)) st (Qc (Value.ref (ad k) :: As).toArray) (zA ad sz) := by
  have hr := va_recv (q := (C, T, N)) (ci := ci) X.2.2.2.2.2.1 hP hcl (q0 := k) (a := ad k) (fs := fs) (by rw [zW_get hk, hc])
  exact va_runV (As := As) (rest := st) (C := C) ⟨X.1, X.2.1, X.2.2.1, X.2.2.2.1, X.2.2.2.2.1⟩ hM (cwV n X.2.2.2.2.1 (zU_goodIn (zLk_all K.1)) rfl rfl rfl K.2 hR) ⟨z_blind, hr, fun U hU hW => ⟨rfl, by rw [hU]; exact hsz, by rw [hU]; exact hP, va_K.moved hW.alike X.2.2.2.2.2.1, va_Nw.warmM hW X.2.2.2.2.2.2.2⟩⟩ rfl hn h.1 rfl (lv_room hW) dd hcs
theorem z_runS (X : zX p s m args c cc nL own D G ad) {idx n maxL d sz : Nat} {y : MethodName} {bytes : ByteArray} {ret : Option FieldType} {As : List Value} {Qc : Array Value → State → Outcome → State → Prop}
    (hM : Met l y (.code y bytes maxL ret :: zU) (zRm d) (zPc D G ad As σ sz) Qc 0 0 (zA ad sz)) (K : zLkS own idx y bytes maxL ret n) (hn : As.length = n) (hR : d + 1 ≤ R.frames ∧ 8 + (maxL + 11) + 30 * d ≤ R.locals) (hW : (st.map fun v => v.category).sum ≤ 8) (dd : decode cc pc = .ok (.invokestatic idx, 3))
    {ls : Array Slot} {H : Heap} {locs : List Loc} (hsz : H.size = sz) (h : lv_has ls nL lv) (hP : va_P D vwCl (zW ad G σ) H) (hS : va_S (zA ad s.heap.size) s.heap H locs) (hcs : cells ≤ R.cells ∧ slots ≤ R.slots) :
    va_Run p l e R s m args below meth c H locs cells slots 0 0 (F0 m pc ls (As.reverse ++ st)) st (Qc As.toArray) (zA ad sz) :=
  va_runS (As := As) (rest := st) ⟨X.1, X.2.1, X.2.2.1, X.2.2.2.1, X.2.2.2.2.1⟩ hM (cwS n X.2.2.2.2.1 (zU_goodIn (zLk_all K.1)) rfl rfl rfl K.2 hR) ⟨z_blind, fun U hU hW => ⟨rfl, by rw [hU]; exact hsz, by rw [hU]; exact hP, va_K.moved hW.alike X.2.2.2.2.2.1, va_Nw.warmM hW X.2.2.2.2.2.2.2⟩⟩ rfl hn h.1 rfl (lv_room hW) dd hcs
theorem z_callVI0 (X : zX p s m args c cc nL own D G ad) {idx ci k maxL d : Nat} {C : String} {T : u_T} {N : Nat} {y : MethodName} {bytes : ByteArray} {ret : Option FieldType} {fs : List Value} {Post : Int → zM → Prop} (hM : zKI l D G ad y bytes maxL ret d (.ref (ad k) :: []) σ Post) (K : zLkV own idx C y bytes maxL ret 0) (hcl : vwCl[ci]? = some (C, T, N)) (hk : k < 73) (hc : zC ad G k (σ.1 k) (σ.2 k) = .inr (ci, fs)) (hR : d + 1 ≤ R.frames ∧ 8 + (maxL + 11) + 30 * d ≤ R.locals) (hW : (st.map fun v => v.category).sum ≤ 8) (hcs : cells ≤ R.cells ∧ slots ≤ R.slots) (dd : decode cc pc = .ok (.invokevirtual idx, 3))
    (kk : ∀ (z : Int) (σ1 : zM), Post z σ1 → zV p l e R s m args below meth c nL D G ad cells slots Q (pc + 3) lv (vI z :: st) σ1) : zV p l e R s m args below meth c nL D G ad cells slots Q pc lv (.ref (ad k) :: st) σ :=
  fun ls H locs h hP hS => va_calli (z_runV X (As := []) (hM _) K hcl hk hc rfl hR hW dd rfl h hP hS hcs) hS (zA_old hS) (zA_free hS) (fun r σ1 t H1 locs1 ht _ hp hB _ _ hS1 => by
    obtain ⟨z, rfl, hp⟩ := hp
    exact kk z σ1 hp ls H1 locs1 h (by rw [← ht]; exact hB) hS1)
theorem z_callVI1 (X : zX p s m args c cc nL own D G ad) {idx ci k maxL d : Nat} {C : String} {T : u_T} {N : Nat} {y : MethodName} {bytes : ByteArray} {ret : Option FieldType} {fs : List Value} {a0 : Value} {Post : Int → zM → Prop} (hM : zKI l D G ad y bytes maxL ret d (.ref (ad k) :: [a0]) σ Post) (K : zLkV own idx C y bytes maxL ret 1) (hcl : vwCl[ci]? = some (C, T, N)) (hk : k < 73) (hc : zC ad G k (σ.1 k) (σ.2 k) = .inr (ci, fs)) (hR : d + 1 ≤ R.frames ∧ 8 + (maxL + 11) + 30 * d ≤ R.locals) (hW : (st.map fun v => v.category).sum ≤ 8) (hcs : cells ≤ R.cells ∧ slots ≤ R.slots) (dd : decode cc pc = .ok (.invokevirtual idx, 3))
    (kk : ∀ (z : Int) (σ1 : zM), Post z σ1 → zV p l e R s m args below meth c nL D G ad cells slots Q (pc + 3) lv (vI z :: st) σ1) : zV p l e R s m args below meth c nL D G ad cells slots Q pc lv (a0 :: .ref (ad k) :: st) σ :=
  fun ls H locs h hP hS => va_calli (z_runV X (As := [a0]) (hM _) K hcl hk hc rfl hR hW dd rfl h hP hS hcs) hS (zA_old hS) (zA_free hS) (fun r σ1 t H1 locs1 ht _ hp hB _ _ hS1 => by
    obtain ⟨z, rfl, hp⟩ := hp
    exact kk z σ1 hp ls H1 locs1 h (by rw [← ht]; exact hB) hS1)
theorem z_callVI2 (X : zX p s m args c cc nL own D G ad) {idx ci k maxL d : Nat} {C : String} {T : u_T} {N : Nat} {y : MethodName} {bytes : ByteArray} {ret : Option FieldType} {fs : List Value} {a0 a1 : Value} {Post : Int → zM → Prop} (hM : zKI l D G ad y bytes maxL ret d (.ref (ad k) :: [a0, a1]) σ Post) (K : zLkV own idx C y bytes maxL ret 2) (hcl : vwCl[ci]? = some (C, T, N)) (hk : k < 73) (hc : zC ad G k (σ.1 k) (σ.2 k) = .inr (ci, fs)) (hR : d + 1 ≤ R.frames ∧ 8 + (maxL + 11) + 30 * d ≤ R.locals) (hW : (st.map fun v => v.category).sum ≤ 8) (hcs : cells ≤ R.cells ∧ slots ≤ R.slots) (dd : decode cc pc = .ok (.invokevirtual idx, 3))
    (kk : ∀ (z : Int) (σ1 : zM), Post z σ1 → zV p l e R s m args below meth c nL D G ad cells slots Q (pc + 3) lv (vI z :: st) σ1) : zV p l e R s m args below meth c nL D G ad cells slots Q pc lv (a1 :: a0 :: .ref (ad k) :: st) σ :=
  fun ls H locs h hP hS => va_calli (z_runV X (As := [a0, a1]) (hM _) K hcl hk hc rfl hR hW dd rfl h hP hS hcs) hS (zA_old hS) (zA_free hS) (fun r σ1 t H1 locs1 ht _ hp hB _ _ hS1 => by
    obtain ⟨z, rfl, hp⟩ := hp
    exact kk z σ1 hp ls H1 locs1 h (by rw [← ht]; exact hB) hS1)
theorem z_callVI3 (X : zX p s m args c cc nL own D G ad) {idx ci k maxL d : Nat} {C : String} {T : u_T} {N : Nat} {y : MethodName} {bytes : ByteArray} {ret : Option FieldType} {fs : List Value} {a0 a1 a2 : Value} {Post : Int → zM → Prop} (hM : zKI l D G ad y bytes maxL ret d (.ref (ad k) :: [a0, a1, a2]) σ Post) (K : zLkV own idx C y bytes maxL ret 3) (hcl : vwCl[ci]? = some (C, T, N)) (hk : k < 73) (hc : zC ad G k (σ.1 k) (σ.2 k) = .inr (ci, fs)) (hR : d + 1 ≤ R.frames ∧ 8 + (maxL + 11) + 30 * d ≤ R.locals) (hW : (st.map fun v => v.category).sum ≤ 8) (hcs : cells ≤ R.cells ∧ slots ≤ R.slots) (dd : decode cc pc = .ok (.invokevirtual idx, 3))
    (kk : ∀ (z : Int) (σ1 : zM), Post z σ1 → zV p l e R s m args below meth c nL D G ad cells slots Q (pc + 3) lv (vI z :: st) σ1) : zV p l e R s m args below meth c nL D G ad cells slots Q pc lv (a2 :: a1 :: a0 :: .ref (ad k) :: st) σ :=
  fun ls H locs h hP hS => va_calli (z_runV X (As := [a0, a1, a2]) (hM _) K hcl hk hc rfl hR hW dd rfl h hP hS hcs) hS (zA_old hS) (zA_free hS) (fun r σ1 t H1 locs1 ht _ hp hB _ _ hS1 => by
    obtain ⟨z, rfl, hp⟩ := hp
    exact kk z σ1 hp ls H1 locs1 h (by rw [← ht]; exact hB) hS1)
theorem z_callVI4 (X : zX p s m args c cc nL own D G ad) {idx ci k maxL d : Nat} {C : String} {T : u_T} {N : Nat} {y : MethodName} {bytes : ByteArray} {ret : Option FieldType} {fs : List Value} {a0 a1 a2 a3 : Value} {Post : Int → zM → Prop} (hM : zKI l D G ad y bytes maxL ret d (.ref (ad k) :: [a0, a1, a2, a3]) σ Post) (K : zLkV own idx C y bytes maxL ret 4) (hcl : vwCl[ci]? = some (C, T, N)) (hk : k < 73) (hc : zC ad G k (σ.1 k) (σ.2 k) = .inr (ci, fs)) (hR : d + 1 ≤ R.frames ∧ 8 + (maxL + 11) + 30 * d ≤ R.locals) (hW : (st.map fun v => v.category).sum ≤ 8) (hcs : cells ≤ R.cells ∧ slots ≤ R.slots) (dd : decode cc pc = .ok (.invokevirtual idx, 3))
    (kk : ∀ (z : Int) (σ1 : zM), Post z σ1 → zV p l e R s m args below meth c nL D G ad cells slots Q (pc + 3) lv (vI z :: st) σ1) : zV p l e R s m args below meth c nL D G ad cells slots Q pc lv (a3 :: a2 :: a1 :: a0 :: .ref (ad k) :: st) σ :=
  fun ls H locs h hP hS => va_calli (z_runV X (As := [a0, a1, a2, a3]) (hM _) K hcl hk hc rfl hR hW dd rfl h hP hS hcs) hS (zA_old hS) (zA_free hS) (fun r σ1 t H1 locs1 ht _ hp hB _ _ hS1 => by
    obtain ⟨z, rfl, hp⟩ := hp
    exact kk z σ1 hp ls H1 locs1 h (by rw [← ht]; exact hB) hS1)
theorem z_callVV0 (X : zX p s m args c cc nL own D G ad) {idx ci k maxL d : Nat} {C : String} {T : u_T} {N : Nat} {y : MethodName} {bytes : ByteArray} {ret : Option FieldType} {fs : List Value} {Post : zM → Prop} (hM : zKV l D G ad y bytes maxL ret d (.ref (ad k) :: []) σ Post) (K : zLkV own idx C y bytes maxL ret 0) (hcl : vwCl[ci]? = some (C, T, N)) (hk : k < 73) (hc : zC ad G k (σ.1 k) (σ.2 k) = .inr (ci, fs)) (hR : d + 1 ≤ R.frames ∧ 8 + (maxL + 11) + 30 * d ≤ R.locals) (hW : (st.map fun v => v.category).sum ≤ 8) (hcs : cells ≤ R.cells ∧ slots ≤ R.slots) (dd : decode cc pc = .ok (.invokevirtual idx, 3))
    (kk : ∀ σ1 : zM, Post σ1 → zV p l e R s m args below meth c nL D G ad cells slots Q (pc + 3) lv st σ1) : zV p l e R s m args below meth c nL D G ad cells slots Q pc lv (.ref (ad k) :: st) σ :=
  fun ls H locs h hP hS => va_callv (z_runV X (As := []) (hM _) K hcl hk hc rfl hR hW dd rfl h hP hS hcs) hS (zA_old hS) (zA_free hS) (fun σ1 t H1 locs1 ht _ hp hB _ _ hS1 => kk σ1 hp ls H1 locs1 h (by rw [← ht]; exact hB) hS1)
theorem z_callVV1 (X : zX p s m args c cc nL own D G ad) {idx ci k maxL d : Nat} {C : String} {T : u_T} {N : Nat} {y : MethodName} {bytes : ByteArray} {ret : Option FieldType} {fs : List Value} {a0 : Value} {Post : zM → Prop} (hM : zKV l D G ad y bytes maxL ret d (.ref (ad k) :: [a0]) σ Post) (K : zLkV own idx C y bytes maxL ret 1) (hcl : vwCl[ci]? = some (C, T, N)) (hk : k < 73) (hc : zC ad G k (σ.1 k) (σ.2 k) = .inr (ci, fs)) (hR : d + 1 ≤ R.frames ∧ 8 + (maxL + 11) + 30 * d ≤ R.locals) (hW : (st.map fun v => v.category).sum ≤ 8) (hcs : cells ≤ R.cells ∧ slots ≤ R.slots) (dd : decode cc pc = .ok (.invokevirtual idx, 3))
    (kk : ∀ σ1 : zM, Post σ1 → zV p l e R s m args below meth c nL D G ad cells slots Q (pc + 3) lv st σ1) : zV p l e R s m args below meth c nL D G ad cells slots Q pc lv (a0 :: .ref (ad k) :: st) σ :=
  fun ls H locs h hP hS => va_callv (z_runV X (As := [a0]) (hM _) K hcl hk hc rfl hR hW dd rfl h hP hS hcs) hS (zA_old hS) (zA_free hS) (fun σ1 t H1 locs1 ht _ hp hB _ _ hS1 => kk σ1 hp ls H1 locs1 h (by rw [← ht]; exact hB) hS1)
theorem z_callVV2 (X : zX p s m args c cc nL own D G ad) {idx ci k maxL d : Nat} {C : String} {T : u_T} {N : Nat} {y : MethodName} {bytes : ByteArray} {ret : Option FieldType} {fs : List Value} {a0 a1 : Value} {Post : zM → Prop} (hM : zKV l D G ad y bytes maxL ret d (.ref (ad k) :: [a0, a1]) σ Post) (K : zLkV own idx C y bytes maxL ret 2) (hcl : vwCl[ci]? = some (C, T, N)) (hk : k < 73) (hc : zC ad G k (σ.1 k) (σ.2 k) = .inr (ci, fs)) (hR : d + 1 ≤ R.frames ∧ 8 + (maxL + 11) + 30 * d ≤ R.locals) (hW : (st.map fun v => v.category).sum ≤ 8) (hcs : cells ≤ R.cells ∧ slots ≤ R.slots) (dd : decode cc pc = .ok (.invokevirtual idx, 3))
    (kk : ∀ σ1 : zM, Post σ1 → zV p l e R s m args below meth c nL D G ad cells slots Q (pc + 3) lv st σ1) : zV p l e R s m args below meth c nL D G ad cells slots Q pc lv (a1 :: a0 :: .ref (ad k) :: st) σ :=
  fun ls H locs h hP hS => va_callv (z_runV X (As := [a0, a1]) (hM _) K hcl hk hc rfl hR hW dd rfl h hP hS hcs) hS (zA_old hS) (zA_free hS) (fun σ1 t H1 locs1 ht _ hp hB _ _ hS1 => kk σ1 hp ls H1 locs1 h (by rw [← ht]; exact hB) hS1)
theorem z_callVV3 (X : zX p s m args c cc nL own D G ad) {idx ci k maxL d : Nat} {C : String} {T : u_T} {N : Nat} {y : MethodName} {bytes : ByteArray} {ret : Option FieldType} {fs : List Value} {a0 a1 a2 : Value} {Post : zM → Prop} (hM : zKV l D G ad y bytes maxL ret d (.ref (ad k) :: [a0, a1, a2]) σ Post) (K : zLkV own idx C y bytes maxL ret 3) (hcl : vwCl[ci]? = some (C, T, N)) (hk : k < 73) (hc : zC ad G k (σ.1 k) (σ.2 k) = .inr (ci, fs)) (hR : d + 1 ≤ R.frames ∧ 8 + (maxL + 11) + 30 * d ≤ R.locals) (hW : (st.map fun v => v.category).sum ≤ 8) (hcs : cells ≤ R.cells ∧ slots ≤ R.slots) (dd : decode cc pc = .ok (.invokevirtual idx, 3))
    (kk : ∀ σ1 : zM, Post σ1 → zV p l e R s m args below meth c nL D G ad cells slots Q (pc + 3) lv st σ1) : zV p l e R s m args below meth c nL D G ad cells slots Q pc lv (a2 :: a1 :: a0 :: .ref (ad k) :: st) σ :=
  fun ls H locs h hP hS => va_callv (z_runV X (As := [a0, a1, a2]) (hM _) K hcl hk hc rfl hR hW dd rfl h hP hS hcs) hS (zA_old hS) (zA_free hS) (fun σ1 t H1 locs1 ht _ hp hB _ _ hS1 => kk σ1 hp ls H1 locs1 h (by rw [← ht]; exact hB) hS1)
theorem z_callVV4 (X : zX p s m args c cc nL own D G ad) {idx ci k maxL d : Nat} {C : String} {T : u_T} {N : Nat} {y : MethodName} {bytes : ByteArray} {ret : Option FieldType} {fs : List Value} {a0 a1 a2 a3 : Value} {Post : zM → Prop} (hM : zKV l D G ad y bytes maxL ret d (.ref (ad k) :: [a0, a1, a2, a3]) σ Post) (K : zLkV own idx C y bytes maxL ret 4) (hcl : vwCl[ci]? = some (C, T, N)) (hk : k < 73) (hc : zC ad G k (σ.1 k) (σ.2 k) = .inr (ci, fs)) (hR : d + 1 ≤ R.frames ∧ 8 + (maxL + 11) + 30 * d ≤ R.locals) (hW : (st.map fun v => v.category).sum ≤ 8) (hcs : cells ≤ R.cells ∧ slots ≤ R.slots) (dd : decode cc pc = .ok (.invokevirtual idx, 3))
    (kk : ∀ σ1 : zM, Post σ1 → zV p l e R s m args below meth c nL D G ad cells slots Q (pc + 3) lv st σ1) : zV p l e R s m args below meth c nL D G ad cells slots Q pc lv (a3 :: a2 :: a1 :: a0 :: .ref (ad k) :: st) σ :=
  fun ls H locs h hP hS => va_callv (z_runV X (As := [a0, a1, a2, a3]) (hM _) K hcl hk hc rfl hR hW dd rfl h hP hS hcs) hS (zA_old hS) (zA_free hS) (fun σ1 t H1 locs1 ht _ hp hB _ _ hS1 => kk σ1 hp ls H1 locs1 h (by rw [← ht]; exact hB) hS1)
theorem z_callVL0 (X : zX p s m args c cc nL own D G ad) {idx ci k maxL d : Nat} {C : String} {T : u_T} {N : Nat} {y : MethodName} {bytes : ByteArray} {ret : Option FieldType} {fs : List Value} {Post : Int64 → zM → Prop} (hM : zKL l D G ad y bytes maxL ret d (.ref (ad k) :: []) σ Post) (K : zLkV own idx C y bytes maxL ret 0) (hcl : vwCl[ci]? = some (C, T, N)) (hk : k < 73) (hc : zC ad G k (σ.1 k) (σ.2 k) = .inr (ci, fs)) (hR : d + 1 ≤ R.frames ∧ 8 + (maxL + 11) + 30 * d ≤ R.locals) (hW : (st.map fun v => v.category).sum ≤ 8) (hcs : cells ≤ R.cells ∧ slots ≤ R.slots) (dd : decode cc pc = .ok (.invokevirtual idx, 3))
    (kk : ∀ (z : Int64) (σ1 : zM), Post z σ1 → zV p l e R s m args below meth c nL D G ad cells slots Q (pc + 3) lv (.long z :: st) σ1) : zV p l e R s m args below meth c nL D G ad cells slots Q pc lv (.ref (ad k) :: st) σ :=
  fun ls H locs h hP hS => va_calll (z_runV X (As := []) (hM _) K hcl hk hc rfl hR hW dd rfl h hP hS hcs) hS (zA_old hS) (zA_free hS) (fun z σ1 t H1 locs1 ht _ hp hB _ _ hS1 => kk z σ1 hp ls H1 locs1 h (by rw [← ht]; exact hB) hS1)
theorem z_callVL1 (X : zX p s m args c cc nL own D G ad) {idx ci k maxL d : Nat} {C : String} {T : u_T} {N : Nat} {y : MethodName} {bytes : ByteArray} {ret : Option FieldType} {fs : List Value} {a0 : Value} {Post : Int64 → zM → Prop} (hM : zKL l D G ad y bytes maxL ret d (.ref (ad k) :: [a0]) σ Post) (K : zLkV own idx C y bytes maxL ret 1) (hcl : vwCl[ci]? = some (C, T, N)) (hk : k < 73) (hc : zC ad G k (σ.1 k) (σ.2 k) = .inr (ci, fs)) (hR : d + 1 ≤ R.frames ∧ 8 + (maxL + 11) + 30 * d ≤ R.locals) (hW : (st.map fun v => v.category).sum ≤ 8) (hcs : cells ≤ R.cells ∧ slots ≤ R.slots) (dd : decode cc pc = .ok (.invokevirtual idx, 3))
    (kk : ∀ (z : Int64) (σ1 : zM), Post z σ1 → zV p l e R s m args below meth c nL D G ad cells slots Q (pc + 3) lv (.long z :: st) σ1) : zV p l e R s m args below meth c nL D G ad cells slots Q pc lv (a0 :: .ref (ad k) :: st) σ :=
  fun ls H locs h hP hS => va_calll (z_runV X (As := [a0]) (hM _) K hcl hk hc rfl hR hW dd rfl h hP hS hcs) hS (zA_old hS) (zA_free hS) (fun z σ1 t H1 locs1 ht _ hp hB _ _ hS1 => kk z σ1 hp ls H1 locs1 h (by rw [← ht]; exact hB) hS1)
theorem z_callVL2 (X : zX p s m args c cc nL own D G ad) {idx ci k maxL d : Nat} {C : String} {T : u_T} {N : Nat} {y : MethodName} {bytes : ByteArray} {ret : Option FieldType} {fs : List Value} {a0 a1 : Value} {Post : Int64 → zM → Prop} (hM : zKL l D G ad y bytes maxL ret d (.ref (ad k) :: [a0, a1]) σ Post) (K : zLkV own idx C y bytes maxL ret 2) (hcl : vwCl[ci]? = some (C, T, N)) (hk : k < 73) (hc : zC ad G k (σ.1 k) (σ.2 k) = .inr (ci, fs)) (hR : d + 1 ≤ R.frames ∧ 8 + (maxL + 11) + 30 * d ≤ R.locals) (hW : (st.map fun v => v.category).sum ≤ 8) (hcs : cells ≤ R.cells ∧ slots ≤ R.slots) (dd : decode cc pc = .ok (.invokevirtual idx, 3))
    (kk : ∀ (z : Int64) (σ1 : zM), Post z σ1 → zV p l e R s m args below meth c nL D G ad cells slots Q (pc + 3) lv (.long z :: st) σ1) : zV p l e R s m args below meth c nL D G ad cells slots Q pc lv (a1 :: a0 :: .ref (ad k) :: st) σ :=
  fun ls H locs h hP hS => va_calll (z_runV X (As := [a0, a1]) (hM _) K hcl hk hc rfl hR hW dd rfl h hP hS hcs) hS (zA_old hS) (zA_free hS) (fun z σ1 t H1 locs1 ht _ hp hB _ _ hS1 => kk z σ1 hp ls H1 locs1 h (by rw [← ht]; exact hB) hS1)
theorem z_callVL3 (X : zX p s m args c cc nL own D G ad) {idx ci k maxL d : Nat} {C : String} {T : u_T} {N : Nat} {y : MethodName} {bytes : ByteArray} {ret : Option FieldType} {fs : List Value} {a0 a1 a2 : Value} {Post : Int64 → zM → Prop} (hM : zKL l D G ad y bytes maxL ret d (.ref (ad k) :: [a0, a1, a2]) σ Post) (K : zLkV own idx C y bytes maxL ret 3) (hcl : vwCl[ci]? = some (C, T, N)) (hk : k < 73) (hc : zC ad G k (σ.1 k) (σ.2 k) = .inr (ci, fs)) (hR : d + 1 ≤ R.frames ∧ 8 + (maxL + 11) + 30 * d ≤ R.locals) (hW : (st.map fun v => v.category).sum ≤ 8) (hcs : cells ≤ R.cells ∧ slots ≤ R.slots) (dd : decode cc pc = .ok (.invokevirtual idx, 3))
    (kk : ∀ (z : Int64) (σ1 : zM), Post z σ1 → zV p l e R s m args below meth c nL D G ad cells slots Q (pc + 3) lv (.long z :: st) σ1) : zV p l e R s m args below meth c nL D G ad cells slots Q pc lv (a2 :: a1 :: a0 :: .ref (ad k) :: st) σ :=
  fun ls H locs h hP hS => va_calll (z_runV X (As := [a0, a1, a2]) (hM _) K hcl hk hc rfl hR hW dd rfl h hP hS hcs) hS (zA_old hS) (zA_free hS) (fun z σ1 t H1 locs1 ht _ hp hB _ _ hS1 => kk z σ1 hp ls H1 locs1 h (by rw [← ht]; exact hB) hS1)
theorem z_callVL4 (X : zX p s m args c cc nL own D G ad) {idx ci k maxL d : Nat} {C : String} {T : u_T} {N : Nat} {y : MethodName} {bytes : ByteArray} {ret : Option FieldType} {fs : List Value} {a0 a1 a2 a3 : Value} {Post : Int64 → zM → Prop} (hM : zKL l D G ad y bytes maxL ret d (.ref (ad k) :: [a0, a1, a2, a3]) σ Post) (K : zLkV own idx C y bytes maxL ret 4) (hcl : vwCl[ci]? = some (C, T, N)) (hk : k < 73) (hc : zC ad G k (σ.1 k) (σ.2 k) = .inr (ci, fs)) (hR : d + 1 ≤ R.frames ∧ 8 + (maxL + 11) + 30 * d ≤ R.locals) (hW : (st.map fun v => v.category).sum ≤ 8) (hcs : cells ≤ R.cells ∧ slots ≤ R.slots) (dd : decode cc pc = .ok (.invokevirtual idx, 3))
    (kk : ∀ (z : Int64) (σ1 : zM), Post z σ1 → zV p l e R s m args below meth c nL D G ad cells slots Q (pc + 3) lv (.long z :: st) σ1) : zV p l e R s m args below meth c nL D G ad cells slots Q pc lv (a3 :: a2 :: a1 :: a0 :: .ref (ad k) :: st) σ :=
  fun ls H locs h hP hS => va_calll (z_runV X (As := [a0, a1, a2, a3]) (hM _) K hcl hk hc rfl hR hW dd rfl h hP hS hcs) hS (zA_old hS) (zA_free hS) (fun z σ1 t H1 locs1 ht _ hp hB _ _ hS1 => kk z σ1 hp ls H1 locs1 h (by rw [← ht]; exact hB) hS1)
theorem z_callSI0 (X : zX p s m args c cc nL own D G ad) {idx maxL d : Nat} {y : MethodName} {bytes : ByteArray} {ret : Option FieldType} {Post : Int → zM → Prop} (hM : zKI l D G ad y bytes maxL ret d [] σ Post) (K : zLkS own idx y bytes maxL ret 0) (hR : d + 1 ≤ R.frames ∧ 8 + (maxL + 11) + 30 * d ≤ R.locals) (hW : (st.map fun v => v.category).sum ≤ 8) (hcs : cells ≤ R.cells ∧ slots ≤ R.slots) (dd : decode cc pc = .ok (.invokestatic idx, 3))
    (kk : ∀ (z : Int) (σ1 : zM), Post z σ1 → zV p l e R s m args below meth c nL D G ad cells slots Q (pc + 3) lv (vI z :: st) σ1) : zV p l e R s m args below meth c nL D G ad cells slots Q pc lv (st) σ :=
  fun ls H locs h hP hS => va_calli (z_runS X (As := []) (hM _) K rfl hR hW dd rfl h hP hS hcs) hS (zA_old hS) (zA_free hS) (fun r σ1 t H1 locs1 ht _ hp hB _ _ hS1 => by
    obtain ⟨z, rfl, hp⟩ := hp
    exact kk z σ1 hp ls H1 locs1 h (by rw [← ht]; exact hB) hS1)
theorem z_callSI1 (X : zX p s m args c cc nL own D G ad) {idx maxL d : Nat} {y : MethodName} {bytes : ByteArray} {ret : Option FieldType} {a0 : Value} {Post : Int → zM → Prop} (hM : zKI l D G ad y bytes maxL ret d [a0] σ Post) (K : zLkS own idx y bytes maxL ret 1) (hR : d + 1 ≤ R.frames ∧ 8 + (maxL + 11) + 30 * d ≤ R.locals) (hW : (st.map fun v => v.category).sum ≤ 8) (hcs : cells ≤ R.cells ∧ slots ≤ R.slots) (dd : decode cc pc = .ok (.invokestatic idx, 3))
    (kk : ∀ (z : Int) (σ1 : zM), Post z σ1 → zV p l e R s m args below meth c nL D G ad cells slots Q (pc + 3) lv (vI z :: st) σ1) : zV p l e R s m args below meth c nL D G ad cells slots Q pc lv (a0 :: st) σ :=
  fun ls H locs h hP hS => va_calli (z_runS X (As := [a0]) (hM _) K rfl hR hW dd rfl h hP hS hcs) hS (zA_old hS) (zA_free hS) (fun r σ1 t H1 locs1 ht _ hp hB _ _ hS1 => by
    obtain ⟨z, rfl, hp⟩ := hp
    exact kk z σ1 hp ls H1 locs1 h (by rw [← ht]; exact hB) hS1)
theorem z_callSI2 (X : zX p s m args c cc nL own D G ad) {idx maxL d : Nat} {y : MethodName} {bytes : ByteArray} {ret : Option FieldType} {a0 a1 : Value} {Post : Int → zM → Prop} (hM : zKI l D G ad y bytes maxL ret d [a0, a1] σ Post) (K : zLkS own idx y bytes maxL ret 2) (hR : d + 1 ≤ R.frames ∧ 8 + (maxL + 11) + 30 * d ≤ R.locals) (hW : (st.map fun v => v.category).sum ≤ 8) (hcs : cells ≤ R.cells ∧ slots ≤ R.slots) (dd : decode cc pc = .ok (.invokestatic idx, 3))
    (kk : ∀ (z : Int) (σ1 : zM), Post z σ1 → zV p l e R s m args below meth c nL D G ad cells slots Q (pc + 3) lv (vI z :: st) σ1) : zV p l e R s m args below meth c nL D G ad cells slots Q pc lv (a1 :: a0 :: st) σ :=
  fun ls H locs h hP hS => va_calli (z_runS X (As := [a0, a1]) (hM _) K rfl hR hW dd rfl h hP hS hcs) hS (zA_old hS) (zA_free hS) (fun r σ1 t H1 locs1 ht _ hp hB _ _ hS1 => by
    obtain ⟨z, rfl, hp⟩ := hp
    exact kk z σ1 hp ls H1 locs1 h (by rw [← ht]; exact hB) hS1)
theorem z_callSI3 (X : zX p s m args c cc nL own D G ad) {idx maxL d : Nat} {y : MethodName} {bytes : ByteArray} {ret : Option FieldType} {a0 a1 a2 : Value} {Post : Int → zM → Prop} (hM : zKI l D G ad y bytes maxL ret d [a0, a1, a2] σ Post) (K : zLkS own idx y bytes maxL ret 3) (hR : d + 1 ≤ R.frames ∧ 8 + (maxL + 11) + 30 * d ≤ R.locals) (hW : (st.map fun v => v.category).sum ≤ 8) (hcs : cells ≤ R.cells ∧ slots ≤ R.slots) (dd : decode cc pc = .ok (.invokestatic idx, 3))
    (kk : ∀ (z : Int) (σ1 : zM), Post z σ1 → zV p l e R s m args below meth c nL D G ad cells slots Q (pc + 3) lv (vI z :: st) σ1) : zV p l e R s m args below meth c nL D G ad cells slots Q pc lv (a2 :: a1 :: a0 :: st) σ :=
  fun ls H locs h hP hS => va_calli (z_runS X (As := [a0, a1, a2]) (hM _) K rfl hR hW dd rfl h hP hS hcs) hS (zA_old hS) (zA_free hS) (fun r σ1 t H1 locs1 ht _ hp hB _ _ hS1 => by
    obtain ⟨z, rfl, hp⟩ := hp
    exact kk z σ1 hp ls H1 locs1 h (by rw [← ht]; exact hB) hS1)
theorem z_callSI4 (X : zX p s m args c cc nL own D G ad) {idx maxL d : Nat} {y : MethodName} {bytes : ByteArray} {ret : Option FieldType} {a0 a1 a2 a3 : Value} {Post : Int → zM → Prop} (hM : zKI l D G ad y bytes maxL ret d [a0, a1, a2, a3] σ Post) (K : zLkS own idx y bytes maxL ret 4) (hR : d + 1 ≤ R.frames ∧ 8 + (maxL + 11) + 30 * d ≤ R.locals) (hW : (st.map fun v => v.category).sum ≤ 8) (hcs : cells ≤ R.cells ∧ slots ≤ R.slots) (dd : decode cc pc = .ok (.invokestatic idx, 3))
    (kk : ∀ (z : Int) (σ1 : zM), Post z σ1 → zV p l e R s m args below meth c nL D G ad cells slots Q (pc + 3) lv (vI z :: st) σ1) : zV p l e R s m args below meth c nL D G ad cells slots Q pc lv (a3 :: a2 :: a1 :: a0 :: st) σ :=
  fun ls H locs h hP hS => va_calli (z_runS X (As := [a0, a1, a2, a3]) (hM _) K rfl hR hW dd rfl h hP hS hcs) hS (zA_old hS) (zA_free hS) (fun r σ1 t H1 locs1 ht _ hp hB _ _ hS1 => by
    obtain ⟨z, rfl, hp⟩ := hp
    exact kk z σ1 hp ls H1 locs1 h (by rw [← ht]; exact hB) hS1)
theorem z_callSV0 (X : zX p s m args c cc nL own D G ad) {idx maxL d : Nat} {y : MethodName} {bytes : ByteArray} {ret : Option FieldType} {Post : zM → Prop} (hM : zKV l D G ad y bytes maxL ret d [] σ Post) (K : zLkS own idx y bytes maxL ret 0) (hR : d + 1 ≤ R.frames ∧ 8 + (maxL + 11) + 30 * d ≤ R.locals) (hW : (st.map fun v => v.category).sum ≤ 8) (hcs : cells ≤ R.cells ∧ slots ≤ R.slots) (dd : decode cc pc = .ok (.invokestatic idx, 3))
    (kk : ∀ σ1 : zM, Post σ1 → zV p l e R s m args below meth c nL D G ad cells slots Q (pc + 3) lv st σ1) : zV p l e R s m args below meth c nL D G ad cells slots Q pc lv (st) σ :=
  fun ls H locs h hP hS => va_callv (z_runS X (As := []) (hM _) K rfl hR hW dd rfl h hP hS hcs) hS (zA_old hS) (zA_free hS) (fun σ1 t H1 locs1 ht _ hp hB _ _ hS1 => kk σ1 hp ls H1 locs1 h (by rw [← ht]; exact hB) hS1)
theorem z_callSV1 (X : zX p s m args c cc nL own D G ad) {idx maxL d : Nat} {y : MethodName} {bytes : ByteArray} {ret : Option FieldType} {a0 : Value} {Post : zM → Prop} (hM : zKV l D G ad y bytes maxL ret d [a0] σ Post) (K : zLkS own idx y bytes maxL ret 1) (hR : d + 1 ≤ R.frames ∧ 8 + (maxL + 11) + 30 * d ≤ R.locals) (hW : (st.map fun v => v.category).sum ≤ 8) (hcs : cells ≤ R.cells ∧ slots ≤ R.slots) (dd : decode cc pc = .ok (.invokestatic idx, 3))
    (kk : ∀ σ1 : zM, Post σ1 → zV p l e R s m args below meth c nL D G ad cells slots Q (pc + 3) lv st σ1) : zV p l e R s m args below meth c nL D G ad cells slots Q pc lv (a0 :: st) σ :=
  fun ls H locs h hP hS => va_callv (z_runS X (As := [a0]) (hM _) K rfl hR hW dd rfl h hP hS hcs) hS (zA_old hS) (zA_free hS) (fun σ1 t H1 locs1 ht _ hp hB _ _ hS1 => kk σ1 hp ls H1 locs1 h (by rw [← ht]; exact hB) hS1)
theorem z_callSV2 (X : zX p s m args c cc nL own D G ad) {idx maxL d : Nat} {y : MethodName} {bytes : ByteArray} {ret : Option FieldType} {a0 a1 : Value} {Post : zM → Prop} (hM : zKV l D G ad y bytes maxL ret d [a0, a1] σ Post) (K : zLkS own idx y bytes maxL ret 2) (hR : d + 1 ≤ R.frames ∧ 8 + (maxL + 11) + 30 * d ≤ R.locals) (hW : (st.map fun v => v.category).sum ≤ 8) (hcs : cells ≤ R.cells ∧ slots ≤ R.slots) (dd : decode cc pc = .ok (.invokestatic idx, 3))
    (kk : ∀ σ1 : zM, Post σ1 → zV p l e R s m args below meth c nL D G ad cells slots Q (pc + 3) lv st σ1) : zV p l e R s m args below meth c nL D G ad cells slots Q pc lv (a1 :: a0 :: st) σ :=
  fun ls H locs h hP hS => va_callv (z_runS X (As := [a0, a1]) (hM _) K rfl hR hW dd rfl h hP hS hcs) hS (zA_old hS) (zA_free hS) (fun σ1 t H1 locs1 ht _ hp hB _ _ hS1 => kk σ1 hp ls H1 locs1 h (by rw [← ht]; exact hB) hS1)
theorem z_callSV3 (X : zX p s m args c cc nL own D G ad) {idx maxL d : Nat} {y : MethodName} {bytes : ByteArray} {ret : Option FieldType} {a0 a1 a2 : Value} {Post : zM → Prop} (hM : zKV l D G ad y bytes maxL ret d [a0, a1, a2] σ Post) (K : zLkS own idx y bytes maxL ret 3) (hR : d + 1 ≤ R.frames ∧ 8 + (maxL + 11) + 30 * d ≤ R.locals) (hW : (st.map fun v => v.category).sum ≤ 8) (hcs : cells ≤ R.cells ∧ slots ≤ R.slots) (dd : decode cc pc = .ok (.invokestatic idx, 3))
    (kk : ∀ σ1 : zM, Post σ1 → zV p l e R s m args below meth c nL D G ad cells slots Q (pc + 3) lv st σ1) : zV p l e R s m args below meth c nL D G ad cells slots Q pc lv (a2 :: a1 :: a0 :: st) σ :=
  fun ls H locs h hP hS => va_callv (z_runS X (As := [a0, a1, a2]) (hM _) K rfl hR hW dd rfl h hP hS hcs) hS (zA_old hS) (zA_free hS) (fun σ1 t H1 locs1 ht _ hp hB _ _ hS1 => kk σ1 hp ls H1 locs1 h (by rw [← ht]; exact hB) hS1)
theorem z_callSV4 (X : zX p s m args c cc nL own D G ad) {idx maxL d : Nat} {y : MethodName} {bytes : ByteArray} {ret : Option FieldType} {a0 a1 a2 a3 : Value} {Post : zM → Prop} (hM : zKV l D G ad y bytes maxL ret d [a0, a1, a2, a3] σ Post) (K : zLkS own idx y bytes maxL ret 4) (hR : d + 1 ≤ R.frames ∧ 8 + (maxL + 11) + 30 * d ≤ R.locals) (hW : (st.map fun v => v.category).sum ≤ 8) (hcs : cells ≤ R.cells ∧ slots ≤ R.slots) (dd : decode cc pc = .ok (.invokestatic idx, 3))
    (kk : ∀ σ1 : zM, Post σ1 → zV p l e R s m args below meth c nL D G ad cells slots Q (pc + 3) lv st σ1) : zV p l e R s m args below meth c nL D G ad cells slots Q pc lv (a3 :: a2 :: a1 :: a0 :: st) σ :=
  fun ls H locs h hP hS => va_callv (z_runS X (As := [a0, a1, a2, a3]) (hM _) K rfl hR hW dd rfl h hP hS hcs) hS (zA_old hS) (zA_free hS) (fun σ1 t H1 locs1 ht _ hp hB _ _ hS1 => kk σ1 hp ls H1 locs1 h (by rw [← ht]; exact hB) hS1)
end Z2
end
section
/-! the links of the tables, by their places; blocks of the world -/
theorem zAll1 {a : Cond} (ha : a ∈ zU) : ∀ w ∈ [a], w ∈ zU := fun w h => by
  rcases List.mem_cons.mp h with rfl | h
  · exact ha
  · exact absurd h List.not_mem_nil
theorem zAllc {a : Cond} {b : List Cond} (ha : a ∈ zU) (hb : ∀ w ∈ b, w ∈ zU) : ∀ w ∈ a :: b, w ∈ zU := fun w h => by
  rcases List.mem_cons.mp h with rfl | h
  · exact ha
  · exact hb w h
theorem zLkV_of {own C : String} {idx : Nat} {y : MethodName} {bytes : ByteArray} {maxL : Nat} {ret : Option FieldType} {n : Nat} (h1 : Cond.methodLink own idx y ∈ zU) (h2 : Cond.instanceMethod y ∈ zU) (h3 : Cond.selects C y y ∈ zU) (h4 : Cond.initialized C ∈ zU) (h5 : Cond.code y bytes maxL ret ∈ zU) (h6 : y.cls = C ∧ y.cls ≠ "java/lang/invoke/MethodHandle" ∧ y.cls ≠ "java/lang/invoke/VarHandle" ∧ (parseMethodDescriptor y.desc).map (fun d => d.parameters.length) = some n) : zLkV own idx C y bytes maxL ret n :=
  ⟨zAllc h1 (zAllc h2 (zAllc h3 (zAllc h4 (zAll1 h5)))), h6⟩
theorem zLkS_of {own : String} {idx : Nat} {y : MethodName} {bytes : ByteArray} {maxL : Nat} {ret : Option FieldType} {n : Nat} (h1 : Cond.methodLink own idx y ∈ zU) (h2 : Cond.static y ∈ zU) (h4 : Cond.initialized own ∈ zU) (h5 : Cond.code y bytes maxL ret ∈ zU) (h6 : y.cls = own ∧ y.cls ≠ "java/lang/invoke/MethodHandle" ∧ y.cls ≠ "java/lang/invoke/VarHandle" ∧ (parseMethodDescriptor y.desc).map (fun d => d.parameters.length) = some n) : zLkS own idx y bytes maxL ret n :=
  ⟨zAllc h1 (zAllc h2 (zAllc h4 (zAll1 h5))), h6⟩
theorem fX3_12 : zFld RX3 12 3 0 RX3 TX3 4 := ⟨rfl, by decide, zin_u zin3 zin_g3, zU_mem 149 (by decide +kernel) (by decide +kernel)⟩
theorem fX3_16 : zFld RX3 16 3 1 RX3 TX3 4 := ⟨rfl, by decide, zin_u zin3 zin_g3, zU_mem 150 (by decide +kernel) (by decide +kernel)⟩
theorem fX3_22 : zFld RX3 22 3 2 RX3 TX3 4 := ⟨rfl, by decide, zin_u zin3 zin_g3, zU_mem 151 (by decide +kernel) (by decide +kernel)⟩
theorem fX3_29 : zFld RX3 29 3 3 RX3 TX3 4 := ⟨rfl, by decide, zin_u zin3 zin_g3, zU_mem 152 (by decide +kernel) (by decide +kernel)⟩
theorem fX0_9 : zFld RX0 9 0 0 RX0 TX0 2 := ⟨rfl, by decide, zin_u zin0 zin_g0, zU_mem 142 (by decide +kernel) (by decide +kernel)⟩
theorem fX0_15 : zFld RX0 15 0 1 RX0 TX0 2 := ⟨rfl, by decide, zin_u zin0 zin_g0, zU_mem 143 (by decide +kernel) (by decide +kernel)⟩
theorem fX1_11 : zFld RX1 11 1 0 RX1 TX1 2 := ⟨rfl, by decide, zin_u zin1 zin_g1, zU_mem 129 (by decide +kernel) (by decide +kernel)⟩
theorem fX1_17 : zFld RX1 17 1 1 RX1 TX1 2 := ⟨rfl, by decide, zin_u zin1 zin_g1, zU_mem 130 (by decide +kernel) (by decide +kernel)⟩
theorem fX2_9 : zFld RX2 9 2 0 RX2 TX2 11 := ⟨rfl, by decide, zin_u zin2 zin_g2, zU_mem 85 (by decide +kernel) (by decide +kernel)⟩
theorem fX2_15 : zFld RX2 15 2 1 RX2 TX2 11 := ⟨rfl, by decide, zin_u zin2 zin_g2, zU_mem 86 (by decide +kernel) (by decide +kernel)⟩
theorem fX2_18 : zFld RX2 18 2 2 RX2 TX2 11 := ⟨rfl, by decide, zin_u zin2 zin_g2, zU_mem 87 (by decide +kernel) (by decide +kernel)⟩
theorem fX2_21 : zFld RX2 21 2 3 RX2 TX2 11 := ⟨rfl, by decide, zin_u zin2 zin_g2, zU_mem 88 (by decide +kernel) (by decide +kernel)⟩
theorem fX2_24 : zFld RX2 24 2 4 RX2 TX2 11 := ⟨rfl, by decide, zin_u zin2 zin_g2, zU_mem 89 (by decide +kernel) (by decide +kernel)⟩
theorem fX2_28 : zFld RX2 28 2 5 RX2 TX2 11 := ⟨rfl, by decide, zin_u zin2 zin_g2, zU_mem 90 (by decide +kernel) (by decide +kernel)⟩
theorem fX2_31 : zFld RX2 31 2 6 RX2 TX2 11 := ⟨rfl, by decide, zin_u zin2 zin_g2, zU_mem 91 (by decide +kernel) (by decide +kernel)⟩
theorem fX2_34 : zFld RX2 34 2 7 RX2 TX2 11 := ⟨rfl, by decide, zin_u zin2 zin_g2, zU_mem 92 (by decide +kernel) (by decide +kernel)⟩
theorem fX2_37 : zFld RX2 37 2 8 RX2 TX2 11 := ⟨rfl, by decide, zin_u zin2 zin_g2, zU_mem 93 (by decide +kernel) (by decide +kernel)⟩
theorem fX2_40 : zFld RX2 40 2 9 RX2 TX2 11 := ⟨rfl, by decide, zin_u zin2 zin_g2, zU_mem 94 (by decide +kernel) (by decide +kernel)⟩
theorem fX2_43 : zFld RX2 43 2 10 RX2 TX2 11 := ⟨rfl, by decide, zin_u zin2 zin_g2, zU_mem 95 (by decide +kernel) (by decide +kernel)⟩
theorem fX4_7 : zFld RX4 7 4 1 RX4 TX4 11 := ⟨rfl, by decide, zin_u zin4 zin_g4, zU_mem 802 (by decide +kernel) (by decide +kernel)⟩
theorem fX4_13 : zFld RX4 13 4 3 RX4 TX4 11 := ⟨rfl, by decide, zin_u zin4 zin_g4, zU_mem 804 (by decide +kernel) (by decide +kernel)⟩
theorem fX4_16 : zFld RX4 16 4 0 RX4 TX4 11 := ⟨rfl, by decide, zin_u zin4 zin_g4, zU_mem 801 (by decide +kernel) (by decide +kernel)⟩
theorem fX4_76 : zFld RX4 76 4 2 RX4 TX4 11 := ⟨rfl, by decide, zin_u zin4 zin_g4, zU_mem 803 (by decide +kernel) (by decide +kernel)⟩
theorem fX4_140 : zFld RX4 140 4 4 RX4 TX4 11 := ⟨rfl, by decide, zin_u zin4 zin_g4, zU_mem 805 (by decide +kernel) (by decide +kernel)⟩
theorem fX4_143 : zFld RX4 143 4 5 RX4 TX4 11 := ⟨rfl, by decide, zin_u zin4 zin_g4, zU_mem 806 (by decide +kernel) (by decide +kernel)⟩
theorem fX4_152 : zFld RX4 152 4 7 RX4 TX4 11 := ⟨rfl, by decide, zin_u zin4 zin_g4, zU_mem 808 (by decide +kernel) (by decide +kernel)⟩
theorem fX4_155 : zFld RX4 155 4 6 RX4 TX4 11 := ⟨rfl, by decide, zin_u zin4 zin_g4, zU_mem 807 (by decide +kernel) (by decide +kernel)⟩
theorem fX4_165 : zFld RX4 165 4 8 RX4 TX4 11 := ⟨rfl, by decide, zin_u zin4 zin_g4, zU_mem 809 (by decide +kernel) (by decide +kernel)⟩
theorem fX4_168 : zFld RX4 168 4 9 RX4 TX4 11 := ⟨rfl, by decide, zin_u zin4 zin_g4, zU_mem 810 (by decide +kernel) (by decide +kernel)⟩
theorem fX4_185 : zFld RX4 185 4 10 RX4 TX4 11 := ⟨rfl, by decide, zin_u zin4 zin_g4, zU_mem 811 (by decide +kernel) (by decide +kernel)⟩
theorem u_iniX3 : Cond.initialized RX3 ∈ zU := zU_mem 57 (by decide +kernel) (by decide +kernel)
theorem u_iniX2 : Cond.initialized RX2 ∈ zU := zU_mem 58 (by decide +kernel) (by decide +kernel)
theorem u_iniX1 : Cond.initialized RX1 ∈ zU := zU_mem 59 (by decide +kernel) (by decide +kernel)
theorem u_iniX0 : Cond.initialized RX0 ∈ zU := zU_mem 60 (by decide +kernel) (by decide +kernel)
theorem u_iniX4 : Cond.initialized RX4 ∈ zU := zU_mem 61 (by decide +kernel) (by decide +kernel)
theorem u_cX3_checkSite : Cond.code yX3_checkSite cX3_checkSite 1 none ∈ zU := zU_mem 343 (by decide +kernel) (by decide +kernel)
theorem u_sX3_checkSite : Cond.static yX3_checkSite ∈ zU := zU_mem 342 (by decide +kernel) (by decide +kernel)
theorem u_dX3_checkSite : yX3_checkSite.cls = RX3 ∧ yX3_checkSite.cls ≠ "java/lang/invoke/MethodHandle" ∧ yX3_checkSite.cls ≠ "java/lang/invoke/VarHandle" ∧ (parseMethodDescriptor yX3_checkSite.desc).map (fun d => d.parameters.length) = some 1 := ⟨rfl, by decide +kernel, by decide +kernel, by decide +kernel⟩
theorem kX3_33 : zLkS RX3 33 yX3_checkSite cX3_checkSite 1 none 1 := zLkS_of (zU_mem 341 (by decide +kernel) (by decide +kernel)) u_sX3_checkSite u_iniX3 u_cX3_checkSite u_dX3_checkSite
theorem u_cJ6_bitCount_0f7a4 : Cond.code yJ6_bitCount_0f7a4 cJ6_bitCount_0f7a4 1 (some .int) ∈ zU := zU_mem 415 (by decide +kernel) (by decide +kernel)
theorem u_sJ6_bitCount_0f7a4 : Cond.static yJ6_bitCount_0f7a4 ∈ zU := zU_mem 414 (by decide +kernel) (by decide +kernel)
theorem u_dJ6_bitCount_0f7a4 : yJ6_bitCount_0f7a4.cls = RJ6 ∧ yJ6_bitCount_0f7a4.cls ≠ "java/lang/invoke/MethodHandle" ∧ yJ6_bitCount_0f7a4.cls ≠ "java/lang/invoke/VarHandle" ∧ (parseMethodDescriptor yJ6_bitCount_0f7a4.desc).map (fun d => d.parameters.length) = some 1 := ⟨rfl, by decide +kernel, by decide +kernel, by decide +kernel⟩
theorem u_cX2_canBegin : Cond.code yX2_canBegin cX2_canBegin 4 (some .boolean) ∈ zU := zU_mem 439 (by decide +kernel) (by decide +kernel)
theorem u_iX2_canBegin : Cond.instanceMethod yX2_canBegin ∈ zU := zU_mem 437 (by decide +kernel) (by decide +kernel)
theorem u_vX2_canBegin : Cond.selects RX2 yX2_canBegin yX2_canBegin ∈ zU := zU_mem 438 (by decide +kernel) (by decide +kernel)
theorem u_dX2_canBegin : yX2_canBegin.cls = RX2 ∧ yX2_canBegin.cls ≠ "java/lang/invoke/MethodHandle" ∧ yX2_canBegin.cls ≠ "java/lang/invoke/VarHandle" ∧ (parseMethodDescriptor yX2_canBegin.desc).map (fun d => d.parameters.length) = some 2 := ⟨rfl, by decide +kernel, by decide +kernel, by decide +kernel⟩
theorem kX3_52 : zLkV RX3 52 RX2 yX2_canBegin cX2_canBegin 4 (some .boolean) 2 := zLkV_of (zU_mem 436 (by decide +kernel) (by decide +kernel)) u_iX2_canBegin u_vX2_canBegin u_iniX2 u_cX2_canBegin u_dX2_canBegin
theorem u_cX1_save : Cond.code yX1_save cX1_save 3 none ∈ zU := zU_mem 459 (by decide +kernel) (by decide +kernel)
theorem u_iX1_save : Cond.instanceMethod yX1_save ∈ zU := zU_mem 457 (by decide +kernel) (by decide +kernel)
theorem u_vX1_save : Cond.selects RX1 yX1_save yX1_save ∈ zU := zU_mem 458 (by decide +kernel) (by decide +kernel)
theorem u_dX1_save : yX1_save.cls = RX1 ∧ yX1_save.cls ≠ "java/lang/invoke/MethodHandle" ∧ yX1_save.cls ≠ "java/lang/invoke/VarHandle" ∧ (parseMethodDescriptor yX1_save.desc).map (fun d => d.parameters.length) = some 1 := ⟨rfl, by decide +kernel, by decide +kernel, by decide +kernel⟩
theorem kX3_61 : zLkV RX3 61 RX1 yX1_save cX1_save 3 none 1 := zLkV_of (zU_mem 456 (by decide +kernel) (by decide +kernel)) u_iX1_save u_vX1_save u_iniX1 u_cX1_save u_dX1_save
theorem u_cX2_addDeal : Cond.code yX2_addDeal cX2_addDeal 6 (some .int) ∈ zU := zU_mem 480 (by decide +kernel) (by decide +kernel)
theorem u_iX2_addDeal : Cond.instanceMethod yX2_addDeal ∈ zU := zU_mem 478 (by decide +kernel) (by decide +kernel)
theorem u_vX2_addDeal : Cond.selects RX2 yX2_addDeal yX2_addDeal ∈ zU := zU_mem 479 (by decide +kernel) (by decide +kernel)
theorem u_dX2_addDeal : yX2_addDeal.cls = RX2 ∧ yX2_addDeal.cls ≠ "java/lang/invoke/MethodHandle" ∧ yX2_addDeal.cls ≠ "java/lang/invoke/VarHandle" ∧ (parseMethodDescriptor yX2_addDeal.desc).map (fun d => d.parameters.length) = some 3 := ⟨rfl, by decide +kernel, by decide +kernel, by decide +kernel⟩
theorem kX3_65 : zLkV RX3 65 RX2 yX2_addDeal cX2_addDeal 6 (some .int) 3 := zLkV_of (zU_mem 477 (by decide +kernel) (by decide +kernel)) u_iX2_addDeal u_vX2_addDeal u_iniX2 u_cX2_addDeal u_dX2_addDeal
theorem u_cX3_checkDealAndSite : Cond.code yX3_checkDealAndSite cX3_checkDealAndSite 3 none ∈ zU := zU_mem 492 (by decide +kernel) (by decide +kernel)
theorem u_iX3_checkDealAndSite : Cond.instanceMethod yX3_checkDealAndSite ∈ zU := zU_mem 491 (by decide +kernel) (by decide +kernel)
theorem u_vX3_checkDealAndSite : Cond.selects RX3 yX3_checkDealAndSite yX3_checkDealAndSite ∈ zU := zU_mem 6 (by decide +kernel) (by decide +kernel)
theorem u_dX3_checkDealAndSite : yX3_checkDealAndSite.cls = RX3 ∧ yX3_checkDealAndSite.cls ≠ "java/lang/invoke/MethodHandle" ∧ yX3_checkDealAndSite.cls ≠ "java/lang/invoke/VarHandle" ∧ (parseMethodDescriptor yX3_checkDealAndSite.desc).map (fun d => d.parameters.length) = some 2 := ⟨rfl, by decide +kernel, by decide +kernel, by decide +kernel⟩
theorem kX3_69 : zLkV RX3 69 RX3 yX3_checkDealAndSite cX3_checkDealAndSite 3 none 2 := zLkV_of (zU_mem 489 (by decide +kernel) (by decide +kernel)) u_iX3_checkDealAndSite u_vX3_checkDealAndSite u_iniX3 u_cX3_checkDealAndSite u_dX3_checkDealAndSite
theorem u_cX2_canVote : Cond.code yX2_canVote cX2_canVote 3 (some .boolean) ∈ zU := zU_mem 502 (by decide +kernel) (by decide +kernel)
theorem u_iX2_canVote : Cond.instanceMethod yX2_canVote ∈ zU := zU_mem 500 (by decide +kernel) (by decide +kernel)
theorem u_vX2_canVote : Cond.selects RX2 yX2_canVote yX2_canVote ∈ zU := zU_mem 501 (by decide +kernel) (by decide +kernel)
theorem u_dX2_canVote : yX2_canVote.cls = RX2 ∧ yX2_canVote.cls ≠ "java/lang/invoke/MethodHandle" ∧ yX2_canVote.cls ≠ "java/lang/invoke/VarHandle" ∧ (parseMethodDescriptor yX2_canVote.desc).map (fun d => d.parameters.length) = some 2 := ⟨rfl, by decide +kernel, by decide +kernel, by decide +kernel⟩
theorem kX3_73 : zLkV RX3 73 RX2 yX2_canVote cX2_canVote 3 (some .boolean) 2 := zLkV_of (zU_mem 499 (by decide +kernel) (by decide +kernel)) u_iX2_canVote u_vX2_canVote u_iniX2 u_cX2_canVote u_dX2_canVote
theorem u_cX2_castVote : Cond.code yX2_castVote cX2_castVote 5 (some .int) ∈ zU := zU_mem 507 (by decide +kernel) (by decide +kernel)
theorem u_iX2_castVote : Cond.instanceMethod yX2_castVote ∈ zU := zU_mem 505 (by decide +kernel) (by decide +kernel)
theorem u_vX2_castVote : Cond.selects RX2 yX2_castVote yX2_castVote ∈ zU := zU_mem 506 (by decide +kernel) (by decide +kernel)
theorem u_dX2_castVote : yX2_castVote.cls = RX2 ∧ yX2_castVote.cls ≠ "java/lang/invoke/MethodHandle" ∧ yX2_castVote.cls ≠ "java/lang/invoke/VarHandle" ∧ (parseMethodDescriptor yX2_castVote.desc).map (fun d => d.parameters.length) = some 3 := ⟨rfl, by decide +kernel, by decide +kernel, by decide +kernel⟩
theorem kX3_78 : zLkV RX3 78 RX2 yX2_castVote cX2_castVote 5 (some .int) 3 := zLkV_of (zU_mem 504 (by decide +kernel) (by decide +kernel)) u_iX2_castVote u_vX2_castVote u_iniX2 u_cX2_castVote u_dX2_castVote
theorem u_cX3_checkDeal : Cond.code yX3_checkDeal cX3_checkDeal 2 none ∈ zU := zU_mem 496 (by decide +kernel) (by decide +kernel)
theorem u_iX3_checkDeal : Cond.instanceMethod yX3_checkDeal ∈ zU := zU_mem 495 (by decide +kernel) (by decide +kernel)
theorem u_vX3_checkDeal : Cond.selects RX3 yX3_checkDeal yX3_checkDeal ∈ zU := zU_mem 7 (by decide +kernel) (by decide +kernel)
theorem u_dX3_checkDeal : yX3_checkDeal.cls = RX3 ∧ yX3_checkDeal.cls ≠ "java/lang/invoke/MethodHandle" ∧ yX3_checkDeal.cls ≠ "java/lang/invoke/VarHandle" ∧ (parseMethodDescriptor yX3_checkDeal.desc).map (fun d => d.parameters.length) = some 1 := ⟨rfl, by decide +kernel, by decide +kernel, by decide +kernel⟩
theorem kX3_82 : zLkV RX3 82 RX3 yX3_checkDeal cX3_checkDeal 2 none 1 := zLkV_of (zU_mem 493 (by decide +kernel) (by decide +kernel)) u_iX3_checkDeal u_vX3_checkDeal u_iniX3 u_cX3_checkDeal u_dX3_checkDeal
theorem u_cX2_canDecide : Cond.code yX2_canDecide cX2_canDecide 2 (some .boolean) ∈ zU := zU_mem 531 (by decide +kernel) (by decide +kernel)
theorem u_iX2_canDecide : Cond.instanceMethod yX2_canDecide ∈ zU := zU_mem 529 (by decide +kernel) (by decide +kernel)
theorem u_vX2_canDecide : Cond.selects RX2 yX2_canDecide yX2_canDecide ∈ zU := zU_mem 530 (by decide +kernel) (by decide +kernel)
theorem u_dX2_canDecide : yX2_canDecide.cls = RX2 ∧ yX2_canDecide.cls ≠ "java/lang/invoke/MethodHandle" ∧ yX2_canDecide.cls ≠ "java/lang/invoke/VarHandle" ∧ (parseMethodDescriptor yX2_canDecide.desc).map (fun d => d.parameters.length) = some 1 := ⟨rfl, by decide +kernel, by decide +kernel, by decide +kernel⟩
theorem kX3_85 : zLkV RX3 85 RX2 yX2_canDecide cX2_canDecide 2 (some .boolean) 1 := zLkV_of (zU_mem 528 (by decide +kernel) (by decide +kernel)) u_iX2_canDecide u_vX2_canDecide u_iniX2 u_cX2_canDecide u_dX2_canDecide
theorem u_cX2_makeDecision : Cond.code yX2_makeDecision cX2_makeDecision 3 (some .int) ∈ zU := zU_mem 536 (by decide +kernel) (by decide +kernel)
theorem u_iX2_makeDecision : Cond.instanceMethod yX2_makeDecision ∈ zU := zU_mem 534 (by decide +kernel) (by decide +kernel)
theorem u_vX2_makeDecision : Cond.selects RX2 yX2_makeDecision yX2_makeDecision ∈ zU := zU_mem 535 (by decide +kernel) (by decide +kernel)
theorem u_dX2_makeDecision : yX2_makeDecision.cls = RX2 ∧ yX2_makeDecision.cls ≠ "java/lang/invoke/MethodHandle" ∧ yX2_makeDecision.cls ≠ "java/lang/invoke/VarHandle" ∧ (parseMethodDescriptor yX2_makeDecision.desc).map (fun d => d.parameters.length) = some 1 := ⟨rfl, by decide +kernel, by decide +kernel, by decide +kernel⟩
theorem kX3_91 : zLkV RX3 91 RX2 yX2_makeDecision cX2_makeDecision 3 (some .int) 1 := zLkV_of (zU_mem 533 (by decide +kernel) (by decide +kernel)) u_iX2_makeDecision u_vX2_makeDecision u_iniX2 u_cX2_makeDecision u_dX2_makeDecision
theorem u_cX2_canTell : Cond.code yX2_canTell cX2_canTell 4 (some .boolean) ∈ zU := zU_mem 556 (by decide +kernel) (by decide +kernel)
theorem u_iX2_canTell : Cond.instanceMethod yX2_canTell ∈ zU := zU_mem 554 (by decide +kernel) (by decide +kernel)
theorem u_vX2_canTell : Cond.selects RX2 yX2_canTell yX2_canTell ∈ zU := zU_mem 555 (by decide +kernel) (by decide +kernel)
theorem u_dX2_canTell : yX2_canTell.cls = RX2 ∧ yX2_canTell.cls ≠ "java/lang/invoke/MethodHandle" ∧ yX2_canTell.cls ≠ "java/lang/invoke/VarHandle" ∧ (parseMethodDescriptor yX2_canTell.desc).map (fun d => d.parameters.length) = some 2 := ⟨rfl, by decide +kernel, by decide +kernel, by decide +kernel⟩
theorem kX3_94 : zLkV RX3 94 RX2 yX2_canTell cX2_canTell 4 (some .boolean) 2 := zLkV_of (zU_mem 553 (by decide +kernel) (by decide +kernel)) u_iX2_canTell u_vX2_canTell u_iniX2 u_cX2_canTell u_dX2_canTell
theorem u_cX2_tellMember : Cond.code yX2_tellMember cX2_tellMember 5 (some .int) ∈ zU := zU_mem 561 (by decide +kernel) (by decide +kernel)
theorem u_iX2_tellMember : Cond.instanceMethod yX2_tellMember ∈ zU := zU_mem 559 (by decide +kernel) (by decide +kernel)
theorem u_vX2_tellMember : Cond.selects RX2 yX2_tellMember yX2_tellMember ∈ zU := zU_mem 560 (by decide +kernel) (by decide +kernel)
theorem u_dX2_tellMember : yX2_tellMember.cls = RX2 ∧ yX2_tellMember.cls ≠ "java/lang/invoke/MethodHandle" ∧ yX2_tellMember.cls ≠ "java/lang/invoke/VarHandle" ∧ (parseMethodDescriptor yX2_tellMember.desc).map (fun d => d.parameters.length) = some 2 := ⟨rfl, by decide +kernel, by decide +kernel, by decide +kernel⟩
theorem kX3_99 : zLkV RX3 99 RX2 yX2_tellMember cX2_tellMember 5 (some .int) 2 := zLkV_of (zU_mem 558 (by decide +kernel) (by decide +kernel)) u_iX2_tellMember u_vX2_tellMember u_iniX2 u_cX2_tellMember u_dX2_tellMember
theorem u_cX2_canAsk : Cond.code yX2_canAsk cX2_canAsk 4 (some .boolean) ∈ zU := zU_mem 219 (by decide +kernel) (by decide +kernel)
theorem u_iX2_canAsk : Cond.instanceMethod yX2_canAsk ∈ zU := zU_mem 217 (by decide +kernel) (by decide +kernel)
theorem u_vX2_canAsk : Cond.selects RX2 yX2_canAsk yX2_canAsk ∈ zU := zU_mem 218 (by decide +kernel) (by decide +kernel)
theorem u_dX2_canAsk : yX2_canAsk.cls = RX2 ∧ yX2_canAsk.cls ≠ "java/lang/invoke/MethodHandle" ∧ yX2_canAsk.cls ≠ "java/lang/invoke/VarHandle" ∧ (parseMethodDescriptor yX2_canAsk.desc).map (fun d => d.parameters.length) = some 3 := ⟨rfl, by decide +kernel, by decide +kernel, by decide +kernel⟩
theorem kX3_105 : zLkV RX3 105 RX2 yX2_canAsk cX2_canAsk 4 (some .boolean) 3 := zLkV_of (zU_mem 571 (by decide +kernel) (by decide +kernel)) u_iX2_canAsk u_vX2_canAsk u_iniX2 u_cX2_canAsk u_dX2_canAsk
theorem u_cX2_putQuestion : Cond.code yX2_putQuestion cX2_putQuestion 5 (some .int) ∈ zU := zU_mem 576 (by decide +kernel) (by decide +kernel)
theorem u_iX2_putQuestion : Cond.instanceMethod yX2_putQuestion ∈ zU := zU_mem 574 (by decide +kernel) (by decide +kernel)
theorem u_vX2_putQuestion : Cond.selects RX2 yX2_putQuestion yX2_putQuestion ∈ zU := zU_mem 575 (by decide +kernel) (by decide +kernel)
theorem u_dX2_putQuestion : yX2_putQuestion.cls = RX2 ∧ yX2_putQuestion.cls ≠ "java/lang/invoke/MethodHandle" ∧ yX2_putQuestion.cls ≠ "java/lang/invoke/VarHandle" ∧ (parseMethodDescriptor yX2_putQuestion.desc).map (fun d => d.parameters.length) = some 3 := ⟨rfl, by decide +kernel, by decide +kernel, by decide +kernel⟩
theorem kX3_111 : zLkV RX3 111 RX2 yX2_putQuestion cX2_putQuestion 5 (some .int) 3 := zLkV_of (zU_mem 573 (by decide +kernel) (by decide +kernel)) u_iX2_putQuestion u_vX2_putQuestion u_iniX2 u_cX2_putQuestion u_dX2_putQuestion
theorem u_cX2_isAwake : Cond.code yX2_isAwake cX2_isAwake 2 (some .boolean) ∈ zU := zU_mem 223 (by decide +kernel) (by decide +kernel)
theorem u_iX2_isAwake : Cond.instanceMethod yX2_isAwake ∈ zU := zU_mem 221 (by decide +kernel) (by decide +kernel)
theorem u_vX2_isAwake : Cond.selects RX2 yX2_isAwake yX2_isAwake ∈ zU := zU_mem 222 (by decide +kernel) (by decide +kernel)
theorem u_dX2_isAwake : yX2_isAwake.cls = RX2 ∧ yX2_isAwake.cls ≠ "java/lang/invoke/MethodHandle" ∧ yX2_isAwake.cls ≠ "java/lang/invoke/VarHandle" ∧ (parseMethodDescriptor yX2_isAwake.desc).map (fun d => d.parameters.length) = some 1 := ⟨rfl, by decide +kernel, by decide +kernel, by decide +kernel⟩
theorem kX3_114 : zLkV RX3 114 RX2 yX2_isAwake cX2_isAwake 2 (some .boolean) 1 := zLkV_of (zU_mem 584 (by decide +kernel) (by decide +kernel)) u_iX2_isAwake u_vX2_isAwake u_iniX2 u_cX2_isAwake u_dX2_isAwake
theorem u_cX2_silence : Cond.code yX2_silence cX2_silence 4 (some .int) ∈ zU := zU_mem 589 (by decide +kernel) (by decide +kernel)
theorem u_iX2_silence : Cond.instanceMethod yX2_silence ∈ zU := zU_mem 587 (by decide +kernel) (by decide +kernel)
theorem u_vX2_silence : Cond.selects RX2 yX2_silence yX2_silence ∈ zU := zU_mem 588 (by decide +kernel) (by decide +kernel)
theorem u_dX2_silence : yX2_silence.cls = RX2 ∧ yX2_silence.cls ≠ "java/lang/invoke/MethodHandle" ∧ yX2_silence.cls ≠ "java/lang/invoke/VarHandle" ∧ (parseMethodDescriptor yX2_silence.desc).map (fun d => d.parameters.length) = some 1 := ⟨rfl, by decide +kernel, by decide +kernel, by decide +kernel⟩
theorem kX3_119 : zLkV RX3 119 RX2 yX2_silence cX2_silence 4 (some .int) 1 := zLkV_of (zU_mem 586 (by decide +kernel) (by decide +kernel)) u_iX2_silence u_vX2_silence u_iniX2 u_cX2_silence u_dX2_silence
theorem u_cX2_wake : Cond.code yX2_wake cX2_wake 4 (some .int) ∈ zU := zU_mem 601 (by decide +kernel) (by decide +kernel)
theorem u_iX2_wake : Cond.instanceMethod yX2_wake ∈ zU := zU_mem 599 (by decide +kernel) (by decide +kernel)
theorem u_vX2_wake : Cond.selects RX2 yX2_wake yX2_wake ∈ zU := zU_mem 600 (by decide +kernel) (by decide +kernel)
theorem u_dX2_wake : yX2_wake.cls = RX2 ∧ yX2_wake.cls ≠ "java/lang/invoke/MethodHandle" ∧ yX2_wake.cls ≠ "java/lang/invoke/VarHandle" ∧ (parseMethodDescriptor yX2_wake.desc).map (fun d => d.parameters.length) = some 1 := ⟨rfl, by decide +kernel, by decide +kernel, by decide +kernel⟩
theorem kX3_124 : zLkV RX3 124 RX2 yX2_wake cX2_wake 4 (some .int) 1 := zLkV_of (zU_mem 598 (by decide +kernel) (by decide +kernel)) u_iX2_wake u_vX2_wake u_iniX2 u_cX2_wake u_dX2_wake
theorem u_cX2_letPass : Cond.code yX2_letPass cX2_letPass 5 (some .int) ∈ zU := zU_mem 613 (by decide +kernel) (by decide +kernel)
theorem u_iX2_letPass : Cond.instanceMethod yX2_letPass ∈ zU := zU_mem 611 (by decide +kernel) (by decide +kernel)
theorem u_vX2_letPass : Cond.selects RX2 yX2_letPass yX2_letPass ∈ zU := zU_mem 612 (by decide +kernel) (by decide +kernel)
theorem u_dX2_letPass : yX2_letPass.cls = RX2 ∧ yX2_letPass.cls ≠ "java/lang/invoke/MethodHandle" ∧ yX2_letPass.cls ≠ "java/lang/invoke/VarHandle" ∧ (parseMethodDescriptor yX2_letPass.desc).map (fun d => d.parameters.length) = some 1 := ⟨rfl, by decide +kernel, by decide +kernel, by decide +kernel⟩
theorem kX3_129 : zLkV RX3 129 RX2 yX2_letPass cX2_letPass 5 (some .int) 1 := zLkV_of (zU_mem 610 (by decide +kernel) (by decide +kernel)) u_iX2_letPass u_vX2_letPass u_iniX2 u_cX2_letPass u_dX2_letPass
theorem u_cX2_changePatience : Cond.code yX2_changePatience cX2_changePatience 3 (some .int) ∈ zU := zU_mem 634 (by decide +kernel) (by decide +kernel)
theorem u_iX2_changePatience : Cond.instanceMethod yX2_changePatience ∈ zU := zU_mem 632 (by decide +kernel) (by decide +kernel)
theorem u_vX2_changePatience : Cond.selects RX2 yX2_changePatience yX2_changePatience ∈ zU := zU_mem 633 (by decide +kernel) (by decide +kernel)
theorem u_dX2_changePatience : yX2_changePatience.cls = RX2 ∧ yX2_changePatience.cls ≠ "java/lang/invoke/MethodHandle" ∧ yX2_changePatience.cls ≠ "java/lang/invoke/VarHandle" ∧ (parseMethodDescriptor yX2_changePatience.desc).map (fun d => d.parameters.length) = some 1 := ⟨rfl, by decide +kernel, by decide +kernel, by decide +kernel⟩
theorem kX3_134 : zLkV RX3 134 RX2 yX2_changePatience cX2_changePatience 3 (some .int) 1 := zLkV_of (zU_mem 631 (by decide +kernel) (by decide +kernel)) u_iX2_changePatience u_vX2_changePatience u_iniX2 u_cX2_changePatience u_dX2_changePatience
theorem u_cX2_dealCount : Cond.code yX2_dealCount cX2_dealCount 1 (some .int) ∈ zU := zU_mem 169 (by decide +kernel) (by decide +kernel)
theorem u_iX2_dealCount : Cond.instanceMethod yX2_dealCount ∈ zU := zU_mem 167 (by decide +kernel) (by decide +kernel)
theorem u_vX2_dealCount : Cond.selects RX2 yX2_dealCount yX2_dealCount ∈ zU := zU_mem 168 (by decide +kernel) (by decide +kernel)
theorem u_dX2_dealCount : yX2_dealCount.cls = RX2 ∧ yX2_dealCount.cls ≠ "java/lang/invoke/MethodHandle" ∧ yX2_dealCount.cls ≠ "java/lang/invoke/VarHandle" ∧ (parseMethodDescriptor yX2_dealCount.desc).map (fun d => d.parameters.length) = some 0 := ⟨rfl, by decide +kernel, by decide +kernel, by decide +kernel⟩
theorem kX3_137 : zLkV RX3 137 RX2 yX2_dealCount cX2_dealCount 1 (some .int) 0 := zLkV_of (zU_mem 166 (by decide +kernel) (by decide +kernel)) u_iX2_dealCount u_vX2_dealCount u_iniX2 u_cX2_dealCount u_dX2_dealCount
theorem u_cX2_stateOf : Cond.code yX2_stateOf cX2_stateOf 4 (some .int) ∈ zU := zU_mem 185 (by decide +kernel) (by decide +kernel)
theorem u_iX2_stateOf : Cond.instanceMethod yX2_stateOf ∈ zU := zU_mem 183 (by decide +kernel) (by decide +kernel)
theorem u_vX2_stateOf : Cond.selects RX2 yX2_stateOf yX2_stateOf ∈ zU := zU_mem 184 (by decide +kernel) (by decide +kernel)
theorem u_dX2_stateOf : yX2_stateOf.cls = RX2 ∧ yX2_stateOf.cls ≠ "java/lang/invoke/MethodHandle" ∧ yX2_stateOf.cls ≠ "java/lang/invoke/VarHandle" ∧ (parseMethodDescriptor yX2_stateOf.desc).map (fun d => d.parameters.length) = some 2 := ⟨rfl, by decide +kernel, by decide +kernel, by decide +kernel⟩
theorem kX3_141 : zLkV RX3 141 RX2 yX2_stateOf cX2_stateOf 4 (some .int) 2 := zLkV_of (zU_mem 649 (by decide +kernel) (by decide +kernel)) u_iX2_stateOf u_vX2_stateOf u_iniX2 u_cX2_stateOf u_dX2_stateOf
theorem u_cX2_decisionOf : Cond.code yX2_decisionOf cX2_decisionOf 2 (some .int) ∈ zU := zU_mem 326 (by decide +kernel) (by decide +kernel)
theorem u_iX2_decisionOf : Cond.instanceMethod yX2_decisionOf ∈ zU := zU_mem 324 (by decide +kernel) (by decide +kernel)
theorem u_vX2_decisionOf : Cond.selects RX2 yX2_decisionOf yX2_decisionOf ∈ zU := zU_mem 325 (by decide +kernel) (by decide +kernel)
theorem u_dX2_decisionOf : yX2_decisionOf.cls = RX2 ∧ yX2_decisionOf.cls ≠ "java/lang/invoke/MethodHandle" ∧ yX2_decisionOf.cls ≠ "java/lang/invoke/VarHandle" ∧ (parseMethodDescriptor yX2_decisionOf.desc).map (fun d => d.parameters.length) = some 1 := ⟨rfl, by decide +kernel, by decide +kernel, by decide +kernel⟩
theorem kX3_144 : zLkV RX3 144 RX2 yX2_decisionOf cX2_decisionOf 2 (some .int) 1 := zLkV_of (zU_mem 657 (by decide +kernel) (by decide +kernel)) u_iX2_decisionOf u_vX2_decisionOf u_iniX2 u_cX2_decisionOf u_dX2_decisionOf
theorem u_cX2_leaderOf : Cond.code yX2_leaderOf cX2_leaderOf 2 (some .int) ∈ zU := zU_mem 205 (by decide +kernel) (by decide +kernel)
theorem u_iX2_leaderOf : Cond.instanceMethod yX2_leaderOf ∈ zU := zU_mem 203 (by decide +kernel) (by decide +kernel)
theorem u_vX2_leaderOf : Cond.selects RX2 yX2_leaderOf yX2_leaderOf ∈ zU := zU_mem 204 (by decide +kernel) (by decide +kernel)
theorem u_dX2_leaderOf : yX2_leaderOf.cls = RX2 ∧ yX2_leaderOf.cls ≠ "java/lang/invoke/MethodHandle" ∧ yX2_leaderOf.cls ≠ "java/lang/invoke/VarHandle" ∧ (parseMethodDescriptor yX2_leaderOf.desc).map (fun d => d.parameters.length) = some 1 := ⟨rfl, by decide +kernel, by decide +kernel, by decide +kernel⟩
theorem kX3_147 : zLkV RX3 147 RX2 yX2_leaderOf cX2_leaderOf 2 (some .int) 1 := zLkV_of (zU_mem 665 (by decide +kernel) (by decide +kernel)) u_iX2_leaderOf u_vX2_leaderOf u_iniX2 u_cX2_leaderOf u_dX2_leaderOf
theorem u_cX2_patienceOf : Cond.code yX2_patienceOf cX2_patienceOf 3 (some .int) ∈ zU := zU_mem 330 (by decide +kernel) (by decide +kernel)
theorem u_iX2_patienceOf : Cond.instanceMethod yX2_patienceOf ∈ zU := zU_mem 328 (by decide +kernel) (by decide +kernel)
theorem u_vX2_patienceOf : Cond.selects RX2 yX2_patienceOf yX2_patienceOf ∈ zU := zU_mem 329 (by decide +kernel) (by decide +kernel)
theorem u_dX2_patienceOf : yX2_patienceOf.cls = RX2 ∧ yX2_patienceOf.cls ≠ "java/lang/invoke/MethodHandle" ∧ yX2_patienceOf.cls ≠ "java/lang/invoke/VarHandle" ∧ (parseMethodDescriptor yX2_patienceOf.desc).map (fun d => d.parameters.length) = some 2 := ⟨rfl, by decide +kernel, by decide +kernel, by decide +kernel⟩
theorem kX3_150 : zLkV RX3 150 RX2 yX2_patienceOf cX2_patienceOf 3 (some .int) 2 := zLkV_of (zU_mem 673 (by decide +kernel) (by decide +kernel)) u_iX2_patienceOf u_vX2_patienceOf u_iniX2 u_cX2_patienceOf u_dX2_patienceOf
theorem u_cX2_countOpen : Cond.code yX2_countOpen cX2_countOpen 3 (some .int) ∈ zU := zU_mem 177 (by decide +kernel) (by decide +kernel)
theorem u_iX2_countOpen : Cond.instanceMethod yX2_countOpen ∈ zU := zU_mem 175 (by decide +kernel) (by decide +kernel)
theorem u_vX2_countOpen : Cond.selects RX2 yX2_countOpen yX2_countOpen ∈ zU := zU_mem 176 (by decide +kernel) (by decide +kernel)
theorem u_dX2_countOpen : yX2_countOpen.cls = RX2 ∧ yX2_countOpen.cls ≠ "java/lang/invoke/MethodHandle" ∧ yX2_countOpen.cls ≠ "java/lang/invoke/VarHandle" ∧ (parseMethodDescriptor yX2_countOpen.desc).map (fun d => d.parameters.length) = some 0 := ⟨rfl, by decide +kernel, by decide +kernel, by decide +kernel⟩
theorem kX3_153 : zLkV RX3 153 RX2 yX2_countOpen cX2_countOpen 3 (some .int) 0 := zLkV_of (zU_mem 174 (by decide +kernel) (by decide +kernel)) u_iX2_countOpen u_vX2_countOpen u_iniX2 u_cX2_countOpen u_dX2_countOpen
theorem u_cX2_countStuck : Cond.code yX2_countStuck cX2_countStuck 3 (some .int) ∈ zU := zU_mem 193 (by decide +kernel) (by decide +kernel)
theorem u_iX2_countStuck : Cond.instanceMethod yX2_countStuck ∈ zU := zU_mem 191 (by decide +kernel) (by decide +kernel)
theorem u_vX2_countStuck : Cond.selects RX2 yX2_countStuck yX2_countStuck ∈ zU := zU_mem 192 (by decide +kernel) (by decide +kernel)
theorem u_dX2_countStuck : yX2_countStuck.cls = RX2 ∧ yX2_countStuck.cls ≠ "java/lang/invoke/MethodHandle" ∧ yX2_countStuck.cls ≠ "java/lang/invoke/VarHandle" ∧ (parseMethodDescriptor yX2_countStuck.desc).map (fun d => d.parameters.length) = some 0 := ⟨rfl, by decide +kernel, by decide +kernel, by decide +kernel⟩
theorem kX3_156 : zLkV RX3 156 RX2 yX2_countStuck cX2_countStuck 3 (some .int) 0 := zLkV_of (zU_mem 190 (by decide +kernel) (by decide +kernel)) u_iX2_countStuck u_vX2_countStuck u_iniX2 u_cX2_countStuck u_dX2_countStuck
theorem u_cX2_entriesOf : Cond.code yX2_entriesOf cX2_entriesOf 2 (some .int) ∈ zU := zU_mem 311 (by decide +kernel) (by decide +kernel)
theorem u_iX2_entriesOf : Cond.instanceMethod yX2_entriesOf ∈ zU := zU_mem 309 (by decide +kernel) (by decide +kernel)
theorem u_vX2_entriesOf : Cond.selects RX2 yX2_entriesOf yX2_entriesOf ∈ zU := zU_mem 310 (by decide +kernel) (by decide +kernel)
theorem u_dX2_entriesOf : yX2_entriesOf.cls = RX2 ∧ yX2_entriesOf.cls ≠ "java/lang/invoke/MethodHandle" ∧ yX2_entriesOf.cls ≠ "java/lang/invoke/VarHandle" ∧ (parseMethodDescriptor yX2_entriesOf.desc).map (fun d => d.parameters.length) = some 1 := ⟨rfl, by decide +kernel, by decide +kernel, by decide +kernel⟩
theorem kX3_159 : zLkV RX3 159 RX2 yX2_entriesOf cX2_entriesOf 2 (some .int) 1 := zLkV_of (zU_mem 681 (by decide +kernel) (by decide +kernel)) u_iX2_entriesOf u_vX2_entriesOf u_iniX2 u_cX2_entriesOf u_dX2_entriesOf
theorem u_cX2_entryAt : Cond.code yX2_entryAt cX2_entryAt 3 (some .int) ∈ zU := zU_mem 318 (by decide +kernel) (by decide +kernel)
theorem u_iX2_entryAt : Cond.instanceMethod yX2_entryAt ∈ zU := zU_mem 316 (by decide +kernel) (by decide +kernel)
theorem u_vX2_entryAt : Cond.selects RX2 yX2_entryAt yX2_entryAt ∈ zU := zU_mem 317 (by decide +kernel) (by decide +kernel)
theorem u_dX2_entryAt : yX2_entryAt.cls = RX2 ∧ yX2_entryAt.cls ≠ "java/lang/invoke/MethodHandle" ∧ yX2_entryAt.cls ≠ "java/lang/invoke/VarHandle" ∧ (parseMethodDescriptor yX2_entryAt.desc).map (fun d => d.parameters.length) = some 2 := ⟨rfl, by decide +kernel, by decide +kernel, by decide +kernel⟩
theorem kX3_167 : zLkV RX3 167 RX2 yX2_entryAt cX2_entryAt 3 (some .int) 2 := zLkV_of (zU_mem 690 (by decide +kernel) (by decide +kernel)) u_iX2_entryAt u_vX2_entryAt u_iniX2 u_cX2_entryAt u_dX2_entryAt
theorem u_cX2_itemsHeldBy : Cond.code yX2_itemsHeldBy cX2_itemsHeldBy 4 (some .int) ∈ zU := zU_mem 307 (by decide +kernel) (by decide +kernel)
theorem u_iX2_itemsHeldBy : Cond.instanceMethod yX2_itemsHeldBy ∈ zU := zU_mem 305 (by decide +kernel) (by decide +kernel)
theorem u_vX2_itemsHeldBy : Cond.selects RX2 yX2_itemsHeldBy yX2_itemsHeldBy ∈ zU := zU_mem 306 (by decide +kernel) (by decide +kernel)
theorem u_dX2_itemsHeldBy : yX2_itemsHeldBy.cls = RX2 ∧ yX2_itemsHeldBy.cls ≠ "java/lang/invoke/MethodHandle" ∧ yX2_itemsHeldBy.cls ≠ "java/lang/invoke/VarHandle" ∧ (parseMethodDescriptor yX2_itemsHeldBy.desc).map (fun d => d.parameters.length) = some 1 := ⟨rfl, by decide +kernel, by decide +kernel, by decide +kernel⟩
theorem kX3_170 : zLkV RX3 170 RX2 yX2_itemsHeldBy cX2_itemsHeldBy 4 (some .int) 1 := zLkV_of (zU_mem 698 (by decide +kernel) (by decide +kernel)) u_iX2_itemsHeldBy u_vX2_itemsHeldBy u_iniX2 u_cX2_itemsHeldBy u_dX2_itemsHeldBy
theorem u_cX2_questionCount : Cond.code yX2_questionCount cX2_questionCount 1 (some .int) ∈ zU := zU_mem 231 (by decide +kernel) (by decide +kernel)
theorem u_iX2_questionCount : Cond.instanceMethod yX2_questionCount ∈ zU := zU_mem 229 (by decide +kernel) (by decide +kernel)
theorem u_vX2_questionCount : Cond.selects RX2 yX2_questionCount yX2_questionCount ∈ zU := zU_mem 230 (by decide +kernel) (by decide +kernel)
theorem u_dX2_questionCount : yX2_questionCount.cls = RX2 ∧ yX2_questionCount.cls ≠ "java/lang/invoke/MethodHandle" ∧ yX2_questionCount.cls ≠ "java/lang/invoke/VarHandle" ∧ (parseMethodDescriptor yX2_questionCount.desc).map (fun d => d.parameters.length) = some 0 := ⟨rfl, by decide +kernel, by decide +kernel, by decide +kernel⟩
theorem kX3_173 : zLkV RX3 173 RX2 yX2_questionCount cX2_questionCount 1 (some .int) 0 := zLkV_of (zU_mem 228 (by decide +kernel) (by decide +kernel)) u_iX2_questionCount u_vX2_questionCount u_iniX2 u_cX2_questionCount u_dX2_questionCount
theorem u_cX2_countMembers : Cond.code yX2_countMembers cX2_countMembers 1 (some .int) ∈ zU := zU_mem 239 (by decide +kernel) (by decide +kernel)
theorem u_iX2_countMembers : Cond.instanceMethod yX2_countMembers ∈ zU := zU_mem 237 (by decide +kernel) (by decide +kernel)
theorem u_vX2_countMembers : Cond.selects RX2 yX2_countMembers yX2_countMembers ∈ zU := zU_mem 238 (by decide +kernel) (by decide +kernel)
theorem u_dX2_countMembers : yX2_countMembers.cls = RX2 ∧ yX2_countMembers.cls ≠ "java/lang/invoke/MethodHandle" ∧ yX2_countMembers.cls ≠ "java/lang/invoke/VarHandle" ∧ (parseMethodDescriptor yX2_countMembers.desc).map (fun d => d.parameters.length) = some 0 := ⟨rfl, by decide +kernel, by decide +kernel, by decide +kernel⟩
theorem kX3_176 : zLkV RX3 176 RX2 yX2_countMembers cX2_countMembers 1 (some .int) 0 := zLkV_of (zU_mem 236 (by decide +kernel) (by decide +kernel)) u_iX2_countMembers u_vX2_countMembers u_iniX2 u_cX2_countMembers u_dX2_countMembers
theorem u_cX2_countInState : Cond.code yX2_countInState cX2_countInState 5 (some .int) ∈ zU := zU_mem 243 (by decide +kernel) (by decide +kernel)
theorem u_iX2_countInState : Cond.instanceMethod yX2_countInState ∈ zU := zU_mem 241 (by decide +kernel) (by decide +kernel)
theorem u_vX2_countInState : Cond.selects RX2 yX2_countInState yX2_countInState ∈ zU := zU_mem 242 (by decide +kernel) (by decide +kernel)
theorem u_dX2_countInState : yX2_countInState.cls = RX2 ∧ yX2_countInState.cls ≠ "java/lang/invoke/MethodHandle" ∧ yX2_countInState.cls ≠ "java/lang/invoke/VarHandle" ∧ (parseMethodDescriptor yX2_countInState.desc).map (fun d => d.parameters.length) = some 1 := ⟨rfl, by decide +kernel, by decide +kernel, by decide +kernel⟩
theorem kX3_179 : zLkV RX3 179 RX2 yX2_countInState cX2_countInState 5 (some .int) 1 := zLkV_of (zU_mem 244 (by decide +kernel) (by decide +kernel)) u_iX2_countInState u_vX2_countInState u_iniX2 u_cX2_countInState u_dX2_countInState
theorem u_cX2_reasonAgainstYes : Cond.code yX2_reasonAgainstYes cX2_reasonAgainstYes 4 (some .int) ∈ zU := zU_mem 709 (by decide +kernel) (by decide +kernel)
theorem u_iX2_reasonAgainstYes : Cond.instanceMethod yX2_reasonAgainstYes ∈ zU := zU_mem 707 (by decide +kernel) (by decide +kernel)
theorem u_vX2_reasonAgainstYes : Cond.selects RX2 yX2_reasonAgainstYes yX2_reasonAgainstYes ∈ zU := zU_mem 708 (by decide +kernel) (by decide +kernel)
theorem u_dX2_reasonAgainstYes : yX2_reasonAgainstYes.cls = RX2 ∧ yX2_reasonAgainstYes.cls ≠ "java/lang/invoke/MethodHandle" ∧ yX2_reasonAgainstYes.cls ≠ "java/lang/invoke/VarHandle" ∧ (parseMethodDescriptor yX2_reasonAgainstYes.desc).map (fun d => d.parameters.length) = some 2 := ⟨rfl, by decide +kernel, by decide +kernel, by decide +kernel⟩
theorem kX3_182 : zLkV RX3 182 RX2 yX2_reasonAgainstYes cX2_reasonAgainstYes 4 (some .int) 2 := zLkV_of (zU_mem 706 (by decide +kernel) (by decide +kernel)) u_iX2_reasonAgainstYes u_vX2_reasonAgainstYes u_iniX2 u_cX2_reasonAgainstYes u_dX2_reasonAgainstYes
theorem u_cX2_helperFor : Cond.code yX2_helperFor cX2_helperFor 6 (some .int) ∈ zU := zU_mem 201 (by decide +kernel) (by decide +kernel)
theorem u_iX2_helperFor : Cond.instanceMethod yX2_helperFor ∈ zU := zU_mem 199 (by decide +kernel) (by decide +kernel)
theorem u_vX2_helperFor : Cond.selects RX2 yX2_helperFor yX2_helperFor ∈ zU := zU_mem 200 (by decide +kernel) (by decide +kernel)
theorem u_dX2_helperFor : yX2_helperFor.cls = RX2 ∧ yX2_helperFor.cls ≠ "java/lang/invoke/MethodHandle" ∧ yX2_helperFor.cls ≠ "java/lang/invoke/VarHandle" ∧ (parseMethodDescriptor yX2_helperFor.desc).map (fun d => d.parameters.length) = some 2 := ⟨rfl, by decide +kernel, by decide +kernel, by decide +kernel⟩
theorem kX3_185 : zLkV RX3 185 RX2 yX2_helperFor cX2_helperFor 6 (some .int) 2 := zLkV_of (zU_mem 717 (by decide +kernel) (by decide +kernel)) u_iX2_helperFor u_vX2_helperFor u_iniX2 u_cX2_helperFor u_dX2_helperFor
theorem u_cX2_copyFrom : Cond.code yX2_copyFrom cX2_copyFrom 2 none ∈ zU := zU_mem 467 (by decide +kernel) (by decide +kernel)
theorem u_iX2_copyFrom : Cond.instanceMethod yX2_copyFrom ∈ zU := zU_mem 465 (by decide +kernel) (by decide +kernel)
theorem u_vX2_copyFrom : Cond.selects RX2 yX2_copyFrom yX2_copyFrom ∈ zU := zU_mem 466 (by decide +kernel) (by decide +kernel)
theorem u_dX2_copyFrom : yX2_copyFrom.cls = RX2 ∧ yX2_copyFrom.cls ≠ "java/lang/invoke/MethodHandle" ∧ yX2_copyFrom.cls ≠ "java/lang/invoke/VarHandle" ∧ (parseMethodDescriptor yX2_copyFrom.desc).map (fun d => d.parameters.length) = some 1 := ⟨rfl, by decide +kernel, by decide +kernel, by decide +kernel⟩
theorem kX3_188 : zLkV RX3 188 RX2 yX2_copyFrom cX2_copyFrom 2 none 1 := zLkV_of (zU_mem 725 (by decide +kernel) (by decide +kernel)) u_iX2_copyFrom u_vX2_copyFrom u_iniX2 u_cX2_copyFrom u_dX2_copyFrom
theorem u_cX2_hasEnded : Cond.code yX2_hasEnded cX2_hasEnded 3 (some .boolean) ∈ zU := zU_mem 729 (by decide +kernel) (by decide +kernel)
theorem u_iX2_hasEnded : Cond.instanceMethod yX2_hasEnded ∈ zU := zU_mem 727 (by decide +kernel) (by decide +kernel)
theorem u_vX2_hasEnded : Cond.selects RX2 yX2_hasEnded yX2_hasEnded ∈ zU := zU_mem 728 (by decide +kernel) (by decide +kernel)
theorem u_dX2_hasEnded : yX2_hasEnded.cls = RX2 ∧ yX2_hasEnded.cls ≠ "java/lang/invoke/MethodHandle" ∧ yX2_hasEnded.cls ≠ "java/lang/invoke/VarHandle" ∧ (parseMethodDescriptor yX2_hasEnded.desc).map (fun d => d.parameters.length) = some 2 := ⟨rfl, by decide +kernel, by decide +kernel, by decide +kernel⟩
theorem kX3_191 : zLkV RX3 191 RX2 yX2_hasEnded cX2_hasEnded 3 (some .boolean) 2 := zLkV_of (zU_mem 726 (by decide +kernel) (by decide +kernel)) u_iX2_hasEnded u_vX2_hasEnded u_iniX2 u_cX2_hasEnded u_dX2_hasEnded
theorem u_cX2_tickDeal : Cond.code yX2_tickDeal cX2_tickDeal 4 none ∈ zU := zU_mem 617 (by decide +kernel) (by decide +kernel)
theorem u_iX2_tickDeal : Cond.instanceMethod yX2_tickDeal ∈ zU := zU_mem 615 (by decide +kernel) (by decide +kernel)
theorem u_vX2_tickDeal : Cond.selects RX2 yX2_tickDeal yX2_tickDeal ∈ zU := zU_mem 616 (by decide +kernel) (by decide +kernel)
theorem u_dX2_tickDeal : yX2_tickDeal.cls = RX2 ∧ yX2_tickDeal.cls ≠ "java/lang/invoke/MethodHandle" ∧ yX2_tickDeal.cls ≠ "java/lang/invoke/VarHandle" ∧ (parseMethodDescriptor yX2_tickDeal.desc).map (fun d => d.parameters.length) = some 1 := ⟨rfl, by decide +kernel, by decide +kernel, by decide +kernel⟩
theorem kX3_194 : zLkV RX3 194 RX2 yX2_tickDeal cX2_tickDeal 4 none 1 := zLkV_of (zU_mem 730 (by decide +kernel) (by decide +kernel)) u_iX2_tickDeal u_vX2_tickDeal u_iniX2 u_cX2_tickDeal u_dX2_tickDeal
theorem u_cX0_isFull : Cond.code yX0_isFull cX0_isFull 1 (some .boolean) ∈ zU := zU_mem 742 (by decide +kernel) (by decide +kernel)
theorem u_iX0_isFull : Cond.instanceMethod yX0_isFull ∈ zU := zU_mem 740 (by decide +kernel) (by decide +kernel)
theorem u_vX0_isFull : Cond.selects RX0 yX0_isFull yX0_isFull ∈ zU := zU_mem 741 (by decide +kernel) (by decide +kernel)
theorem u_dX0_isFull : yX0_isFull.cls = RX0 ∧ yX0_isFull.cls ≠ "java/lang/invoke/MethodHandle" ∧ yX0_isFull.cls ≠ "java/lang/invoke/VarHandle" ∧ (parseMethodDescriptor yX0_isFull.desc).map (fun d => d.parameters.length) = some 0 := ⟨rfl, by decide +kernel, by decide +kernel, by decide +kernel⟩
theorem kX3_199 : zLkV RX3 199 RX0 yX0_isFull cX0_isFull 1 (some .boolean) 0 := zLkV_of (zU_mem 739 (by decide +kernel) (by decide +kernel)) u_iX0_isFull u_vX0_isFull u_iniX0 u_cX0_isFull u_dX0_isFull
theorem u_cX0_add : Cond.code yX0_add cX0_add 2 (some .int) ∈ zU := zU_mem 747 (by decide +kernel) (by decide +kernel)
theorem u_iX0_add : Cond.instanceMethod yX0_add ∈ zU := zU_mem 745 (by decide +kernel) (by decide +kernel)
theorem u_vX0_add : Cond.selects RX0 yX0_add yX0_add ∈ zU := zU_mem 746 (by decide +kernel) (by decide +kernel)
theorem u_dX0_add : yX0_add.cls = RX0 ∧ yX0_add.cls ≠ "java/lang/invoke/MethodHandle" ∧ yX0_add.cls ≠ "java/lang/invoke/VarHandle" ∧ (parseMethodDescriptor yX0_add.desc).map (fun d => d.parameters.length) = some 1 := ⟨rfl, by decide +kernel, by decide +kernel, by decide +kernel⟩
theorem kX3_205 : zLkV RX3 205 RX0 yX0_add cX0_add 2 (some .int) 1 := zLkV_of (zU_mem 744 (by decide +kernel) (by decide +kernel)) u_iX0_add u_vX0_add u_iniX0 u_cX0_add u_dX0_add
theorem u_cX0_clear : Cond.code yX0_clear cX0_clear 2 (some .int) ∈ zU := zU_mem 252 (by decide +kernel) (by decide +kernel)
theorem u_iX0_clear : Cond.instanceMethod yX0_clear ∈ zU := zU_mem 250 (by decide +kernel) (by decide +kernel)
theorem u_vX0_clear : Cond.selects RX0 yX0_clear yX0_clear ∈ zU := zU_mem 251 (by decide +kernel) (by decide +kernel)
theorem u_dX0_clear : yX0_clear.cls = RX0 ∧ yX0_clear.cls ≠ "java/lang/invoke/MethodHandle" ∧ yX0_clear.cls ≠ "java/lang/invoke/VarHandle" ∧ (parseMethodDescriptor yX0_clear.desc).map (fun d => d.parameters.length) = some 0 := ⟨rfl, by decide +kernel, by decide +kernel, by decide +kernel⟩
theorem kX3_208 : zLkV RX3 208 RX0 yX0_clear cX0_clear 2 (some .int) 0 := zLkV_of (zU_mem 249 (by decide +kernel) (by decide +kernel)) u_iX0_clear u_vX0_clear u_iniX0 u_cX0_clear u_dX0_clear
theorem u_cX0_errorIndex : Cond.code yX0_errorIndex cX0_errorIndex 3 (some .int) ∈ zU := zU_mem 260 (by decide +kernel) (by decide +kernel)
theorem u_iX0_errorIndex : Cond.instanceMethod yX0_errorIndex ∈ zU := zU_mem 258 (by decide +kernel) (by decide +kernel)
theorem u_vX0_errorIndex : Cond.selects RX0 yX0_errorIndex yX0_errorIndex ∈ zU := zU_mem 259 (by decide +kernel) (by decide +kernel)
theorem u_dX0_errorIndex : yX0_errorIndex.cls = RX0 ∧ yX0_errorIndex.cls ≠ "java/lang/invoke/MethodHandle" ∧ yX0_errorIndex.cls ≠ "java/lang/invoke/VarHandle" ∧ (parseMethodDescriptor yX0_errorIndex.desc).map (fun d => d.parameters.length) = some 0 := ⟨rfl, by decide +kernel, by decide +kernel, by decide +kernel⟩
theorem kX3_211 : zLkV RX3 211 RX0 yX0_errorIndex cX0_errorIndex 3 (some .int) 0 := zLkV_of (zU_mem 257 (by decide +kernel) (by decide +kernel)) u_iX0_errorIndex u_vX0_errorIndex u_iniX0 u_cX0_errorIndex u_dX0_errorIndex
theorem u_cX0_isComplete : Cond.code yX0_isComplete cX0_isComplete 3 (some .boolean) ∈ zU := zU_mem 759 (by decide +kernel) (by decide +kernel)
theorem u_iX0_isComplete : Cond.instanceMethod yX0_isComplete ∈ zU := zU_mem 757 (by decide +kernel) (by decide +kernel)
theorem u_vX0_isComplete : Cond.selects RX0 yX0_isComplete yX0_isComplete ∈ zU := zU_mem 758 (by decide +kernel) (by decide +kernel)
theorem u_dX0_isComplete : yX0_isComplete.cls = RX0 ∧ yX0_isComplete.cls ≠ "java/lang/invoke/MethodHandle" ∧ yX0_isComplete.cls ≠ "java/lang/invoke/VarHandle" ∧ (parseMethodDescriptor yX0_isComplete.desc).map (fun d => d.parameters.length) = some 0 := ⟨rfl, by decide +kernel, by decide +kernel, by decide +kernel⟩
theorem kX3_214 : zLkV RX3 214 RX0 yX0_isComplete cX0_isComplete 3 (some .boolean) 0 := zLkV_of (zU_mem 756 (by decide +kernel) (by decide +kernel)) u_iX0_isComplete u_vX0_isComplete u_iniX0 u_cX0_isComplete u_dX0_isComplete
theorem u_cX0_size : Cond.code yX0_size cX0_size 1 (some .int) ∈ zU := zU_mem 764 (by decide +kernel) (by decide +kernel)
theorem u_iX0_size : Cond.instanceMethod yX0_size ∈ zU := zU_mem 762 (by decide +kernel) (by decide +kernel)
theorem u_vX0_size : Cond.selects RX0 yX0_size yX0_size ∈ zU := zU_mem 763 (by decide +kernel) (by decide +kernel)
theorem u_dX0_size : yX0_size.cls = RX0 ∧ yX0_size.cls ≠ "java/lang/invoke/MethodHandle" ∧ yX0_size.cls ≠ "java/lang/invoke/VarHandle" ∧ (parseMethodDescriptor yX0_size.desc).map (fun d => d.parameters.length) = some 0 := ⟨rfl, by decide +kernel, by decide +kernel, by decide +kernel⟩
theorem kX3_219 : zLkV RX3 219 RX0 yX0_size cX0_size 1 (some .int) 0 := zLkV_of (zU_mem 761 (by decide +kernel) (by decide +kernel)) u_iX0_size u_vX0_size u_iniX0 u_cX0_size u_dX0_size
theorem u_cX0_isActionEnd : Cond.code yX0_isActionEnd cX0_isActionEnd 2 (some .boolean) ∈ zU := zU_mem 768 (by decide +kernel) (by decide +kernel)
theorem u_iX0_isActionEnd : Cond.instanceMethod yX0_isActionEnd ∈ zU := zU_mem 766 (by decide +kernel) (by decide +kernel)
theorem u_vX0_isActionEnd : Cond.selects RX0 yX0_isActionEnd yX0_isActionEnd ∈ zU := zU_mem 767 (by decide +kernel) (by decide +kernel)
theorem u_dX0_isActionEnd : yX0_isActionEnd.cls = RX0 ∧ yX0_isActionEnd.cls ≠ "java/lang/invoke/MethodHandle" ∧ yX0_isActionEnd.cls ≠ "java/lang/invoke/VarHandle" ∧ (parseMethodDescriptor yX0_isActionEnd.desc).map (fun d => d.parameters.length) = some 1 := ⟨rfl, by decide +kernel, by decide +kernel, by decide +kernel⟩
theorem kX3_222 : zLkV RX3 222 RX0 yX0_isActionEnd cX0_isActionEnd 2 (some .boolean) 1 := zLkV_of (zU_mem 765 (by decide +kernel) (by decide +kernel)) u_iX0_isActionEnd u_vX0_isActionEnd u_iniX0 u_cX0_isActionEnd u_dX0_isActionEnd
theorem u_cX3_perform : Cond.code yX3_perform cX3_perform 5 (some .int) ∈ zU := zU_mem 772 (by decide +kernel) (by decide +kernel)
theorem u_iX3_perform : Cond.instanceMethod yX3_perform ∈ zU := zU_mem 771 (by decide +kernel) (by decide +kernel)
theorem u_vX3_perform : Cond.selects RX3 yX3_perform yX3_perform ∈ zU := zU_mem 14 (by decide +kernel) (by decide +kernel)
theorem u_dX3_perform : yX3_perform.cls = RX3 ∧ yX3_perform.cls ≠ "java/lang/invoke/MethodHandle" ∧ yX3_perform.cls ≠ "java/lang/invoke/VarHandle" ∧ (parseMethodDescriptor yX3_perform.desc).map (fun d => d.parameters.length) = some 2 := ⟨rfl, by decide +kernel, by decide +kernel, by decide +kernel⟩
theorem kX3_225 : zLkV RX3 225 RX3 yX3_perform cX3_perform 5 (some .int) 2 := zLkV_of (zU_mem 769 (by decide +kernel) (by decide +kernel)) u_iX3_perform u_vX3_perform u_iniX3 u_cX3_perform u_dX3_perform
theorem u_cX1_size : Cond.code yX1_size cX1_size 1 (some .int) ∈ zU := zU_mem 287 (by decide +kernel) (by decide +kernel)
theorem u_iX1_size : Cond.instanceMethod yX1_size ∈ zU := zU_mem 285 (by decide +kernel) (by decide +kernel)
theorem u_vX1_size : Cond.selects RX1 yX1_size yX1_size ∈ zU := zU_mem 286 (by decide +kernel) (by decide +kernel)
theorem u_dX1_size : yX1_size.cls = RX1 ∧ yX1_size.cls ≠ "java/lang/invoke/MethodHandle" ∧ yX1_size.cls ≠ "java/lang/invoke/VarHandle" ∧ (parseMethodDescriptor yX1_size.desc).map (fun d => d.parameters.length) = some 0 := ⟨rfl, by decide +kernel, by decide +kernel, by decide +kernel⟩
theorem kX3_228 : zLkV RX3 228 RX1 yX1_size cX1_size 1 (some .int) 0 := zLkV_of (zU_mem 284 (by decide +kernel) (by decide +kernel)) u_iX1_size u_vX1_size u_iniX1 u_cX1_size u_dX1_size
theorem u_cX1_restore : Cond.code yX1_restore cX1_restore 3 none ∈ zU := zU_mem 794 (by decide +kernel) (by decide +kernel)
theorem u_iX1_restore : Cond.instanceMethod yX1_restore ∈ zU := zU_mem 792 (by decide +kernel) (by decide +kernel)
theorem u_vX1_restore : Cond.selects RX1 yX1_restore yX1_restore ∈ zU := zU_mem 793 (by decide +kernel) (by decide +kernel)
theorem u_dX1_restore : yX1_restore.cls = RX1 ∧ yX1_restore.cls ≠ "java/lang/invoke/MethodHandle" ∧ yX1_restore.cls ≠ "java/lang/invoke/VarHandle" ∧ (parseMethodDescriptor yX1_restore.desc).map (fun d => d.parameters.length) = some 1 := ⟨rfl, by decide +kernel, by decide +kernel, by decide +kernel⟩
theorem kX3_231 : zLkV RX3 231 RX1 yX1_restore cX1_restore 3 none 1 := zLkV_of (zU_mem 791 (by decide +kernel) (by decide +kernel)) u_iX1_restore u_vX1_restore u_iniX1 u_cX1_restore u_dX1_restore
theorem u_cX2_hash : Cond.code yX2_hash cX2_hash 4 (some .long) ∈ zU := zU_mem 295 (by decide +kernel) (by decide +kernel)
theorem u_iX2_hash : Cond.instanceMethod yX2_hash ∈ zU := zU_mem 293 (by decide +kernel) (by decide +kernel)
theorem u_vX2_hash : Cond.selects RX2 yX2_hash yX2_hash ∈ zU := zU_mem 294 (by decide +kernel) (by decide +kernel)
theorem u_dX2_hash : yX2_hash.cls = RX2 ∧ yX2_hash.cls ≠ "java/lang/invoke/MethodHandle" ∧ yX2_hash.cls ≠ "java/lang/invoke/VarHandle" ∧ (parseMethodDescriptor yX2_hash.desc).map (fun d => d.parameters.length) = some 0 := ⟨rfl, by decide +kernel, by decide +kernel, by decide +kernel⟩
theorem kX3_234 : zLkV RX3 234 RX2 yX2_hash cX2_hash 4 (some .long) 0 := zLkV_of (zU_mem 292 (by decide +kernel) (by decide +kernel)) u_iX2_hash u_vX2_hash u_iniX2 u_cX2_hash u_dX2_hash
theorem u_cX0_digitAt : Cond.code yX0_digitAt cX0_digitAt 2 (some .int) ∈ zU := zU_mem 776 (by decide +kernel) (by decide +kernel)
theorem u_iX0_digitAt : Cond.instanceMethod yX0_digitAt ∈ zU := zU_mem 774 (by decide +kernel) (by decide +kernel)
theorem u_vX0_digitAt : Cond.selects RX0 yX0_digitAt yX0_digitAt ∈ zU := zU_mem 775 (by decide +kernel) (by decide +kernel)
theorem u_dX0_digitAt : yX0_digitAt.cls = RX0 ∧ yX0_digitAt.cls ≠ "java/lang/invoke/MethodHandle" ∧ yX0_digitAt.cls ≠ "java/lang/invoke/VarHandle" ∧ (parseMethodDescriptor yX0_digitAt.desc).map (fun d => d.parameters.length) = some 1 := ⟨rfl, by decide +kernel, by decide +kernel, by decide +kernel⟩
theorem kX3_238 : zLkV RX3 238 RX0 yX0_digitAt cX0_digitAt 2 (some .int) 1 := zLkV_of (zU_mem 773 (by decide +kernel) (by decide +kernel)) u_iX0_digitAt u_vX0_digitAt u_iniX0 u_cX0_digitAt u_dX0_digitAt
theorem u_cX0_signAt : Cond.code yX0_signAt cX0_signAt 2 (some .int) ∈ zU := zU_mem 264 (by decide +kernel) (by decide +kernel)
theorem u_iX0_signAt : Cond.instanceMethod yX0_signAt ∈ zU := zU_mem 262 (by decide +kernel) (by decide +kernel)
theorem u_vX0_signAt : Cond.selects RX0 yX0_signAt yX0_signAt ∈ zU := zU_mem 263 (by decide +kernel) (by decide +kernel)
theorem u_dX0_signAt : yX0_signAt.cls = RX0 ∧ yX0_signAt.cls ≠ "java/lang/invoke/MethodHandle" ∧ yX0_signAt.cls ≠ "java/lang/invoke/VarHandle" ∧ (parseMethodDescriptor yX0_signAt.desc).map (fun d => d.parameters.length) = some 1 := ⟨rfl, by decide +kernel, by decide +kernel, by decide +kernel⟩
theorem kX3_241 : zLkV RX3 241 RX0 yX0_signAt cX0_signAt 2 (some .int) 1 := zLkV_of (zU_mem 777 (by decide +kernel) (by decide +kernel)) u_iX0_signAt u_vX0_signAt u_iniX0 u_cX0_signAt u_dX0_signAt
theorem u_cX0_numberIn : Cond.code yX0_numberIn cX0_numberIn 5 (some .int) ∈ zU := zU_mem 781 (by decide +kernel) (by decide +kernel)
theorem u_iX0_numberIn : Cond.instanceMethod yX0_numberIn ∈ zU := zU_mem 779 (by decide +kernel) (by decide +kernel)
theorem u_vX0_numberIn : Cond.selects RX0 yX0_numberIn yX0_numberIn ∈ zU := zU_mem 780 (by decide +kernel) (by decide +kernel)
theorem u_dX0_numberIn : yX0_numberIn.cls = RX0 ∧ yX0_numberIn.cls ≠ "java/lang/invoke/MethodHandle" ∧ yX0_numberIn.cls ≠ "java/lang/invoke/VarHandle" ∧ (parseMethodDescriptor yX0_numberIn.desc).map (fun d => d.parameters.length) = some 2 := ⟨rfl, by decide +kernel, by decide +kernel, by decide +kernel⟩
theorem kX3_244 : zLkV RX3 244 RX0 yX0_numberIn cX0_numberIn 5 (some .int) 2 := zLkV_of (zU_mem 778 (by decide +kernel) (by decide +kernel)) u_iX0_numberIn u_vX0_numberIn u_iniX0 u_cX0_numberIn u_dX0_numberIn
theorem u_cX2_hasDeal : Cond.code yX2_hasDeal cX2_hasDeal 2 (some .boolean) ∈ zU := zU_mem 209 (by decide +kernel) (by decide +kernel)
theorem u_iX2_hasDeal : Cond.instanceMethod yX2_hasDeal ∈ zU := zU_mem 207 (by decide +kernel) (by decide +kernel)
theorem u_vX2_hasDeal : Cond.selects RX2 yX2_hasDeal yX2_hasDeal ∈ zU := zU_mem 208 (by decide +kernel) (by decide +kernel)
theorem u_dX2_hasDeal : yX2_hasDeal.cls = RX2 ∧ yX2_hasDeal.cls ≠ "java/lang/invoke/MethodHandle" ∧ yX2_hasDeal.cls ≠ "java/lang/invoke/VarHandle" ∧ (parseMethodDescriptor yX2_hasDeal.desc).map (fun d => d.parameters.length) = some 1 := ⟨rfl, by decide +kernel, by decide +kernel, by decide +kernel⟩
theorem kX3_247 : zLkV RX3 247 RX2 yX2_hasDeal cX2_hasDeal 2 (some .boolean) 1 := zLkV_of (zU_mem 497 (by decide +kernel) (by decide +kernel)) u_iX2_hasDeal u_vX2_hasDeal u_iniX2 u_cX2_hasDeal u_dX2_hasDeal
theorem u_cX3_isSite : Cond.code yX3_isSite cX3_isSite 1 (some .boolean) ∈ zU := zU_mem 314 (by decide +kernel) (by decide +kernel)
theorem u_sX3_isSite : Cond.static yX3_isSite ∈ zU := zU_mem 313 (by decide +kernel) (by decide +kernel)
theorem u_dX3_isSite : yX3_isSite.cls = RX3 ∧ yX3_isSite.cls ≠ "java/lang/invoke/MethodHandle" ∧ yX3_isSite.cls ≠ "java/lang/invoke/VarHandle" ∧ (parseMethodDescriptor yX3_isSite.desc).map (fun d => d.parameters.length) = some 1 := ⟨rfl, by decide +kernel, by decide +kernel, by decide +kernel⟩
theorem kX3_252 : zLkS RX3 252 yX3_isSite cX3_isSite 1 (some .boolean) 1 := zLkS_of (zU_mem 344 (by decide +kernel) (by decide +kernel)) u_sX3_isSite u_iniX3 u_cX3_isSite u_dX3_isSite
theorem kX0_19 : zLkV RX0 19 RX0 yX0_isFull cX0_isFull 1 (some .boolean) 0 := zLkV_of (zU_mem 748 (by decide +kernel) (by decide +kernel)) u_iX0_isFull u_vX0_isFull u_iniX0 u_cX0_isFull u_dX0_isFull
theorem kX0_23 : zLkV RX0 23 RX0 yX0_signAt cX0_signAt 2 (some .int) 1 := zLkV_of (zU_mem 261 (by decide +kernel) (by decide +kernel)) u_iX0_signAt u_vX0_signAt u_iniX0 u_cX0_signAt u_dX0_signAt
theorem kX0_27 : zLkV RX0 27 RX0 yX0_digitAt cX0_digitAt 2 (some .int) 1 := zLkV_of (zU_mem 782 (by decide +kernel) (by decide +kernel)) u_iX0_digitAt u_vX0_digitAt u_iniX0 u_cX0_digitAt u_dX0_digitAt
theorem u_cX0_phaseAfter : Cond.code yX0_phaseAfter cX0_phaseAfter 3 (some .int) ∈ zU := zU_mem 267 (by decide +kernel) (by decide +kernel)
theorem u_sX0_phaseAfter : Cond.static yX0_phaseAfter ∈ zU := zU_mem 266 (by decide +kernel) (by decide +kernel)
theorem u_dX0_phaseAfter : yX0_phaseAfter.cls = RX0 ∧ yX0_phaseAfter.cls ≠ "java/lang/invoke/MethodHandle" ∧ yX0_phaseAfter.cls ≠ "java/lang/invoke/VarHandle" ∧ (parseMethodDescriptor yX0_phaseAfter.desc).map (fun d => d.parameters.length) = some 3 := ⟨rfl, by decide +kernel, by decide +kernel, by decide +kernel⟩
theorem kX0_30 : zLkS RX0 30 yX0_phaseAfter cX0_phaseAfter 3 (some .int) 3 := zLkS_of (zU_mem 265 (by decide +kernel) (by decide +kernel)) u_sX0_phaseAfter u_iniX0 u_cX0_phaseAfter u_dX0_phaseAfter
theorem u_cX0_phaseAfterKind : Cond.code yX0_phaseAfterKind cX0_phaseAfterKind 1 (some .int) ∈ zU := zU_mem 270 (by decide +kernel) (by decide +kernel)
theorem u_sX0_phaseAfterKind : Cond.static yX0_phaseAfterKind ∈ zU := zU_mem 269 (by decide +kernel) (by decide +kernel)
theorem u_dX0_phaseAfterKind : yX0_phaseAfterKind.cls = RX0 ∧ yX0_phaseAfterKind.cls ≠ "java/lang/invoke/MethodHandle" ∧ yX0_phaseAfterKind.cls ≠ "java/lang/invoke/VarHandle" ∧ (parseMethodDescriptor yX0_phaseAfterKind.desc).map (fun d => d.parameters.length) = some 1 := ⟨rfl, by decide +kernel, by decide +kernel, by decide +kernel⟩
theorem kX0_34 : zLkS RX0 34 yX0_phaseAfterKind cX0_phaseAfterKind 1 (some .int) 1 := zLkS_of (zU_mem 268 (by decide +kernel) (by decide +kernel)) u_sX0_phaseAfterKind u_iniX0 u_cX0_phaseAfterKind u_dX0_phaseAfterKind
theorem u_cX0_isIn : Cond.code yX0_isIn cX0_isIn 3 (some .boolean) ∈ zU := zU_mem 273 (by decide +kernel) (by decide +kernel)
theorem u_sX0_isIn : Cond.static yX0_isIn ∈ zU := zU_mem 272 (by decide +kernel) (by decide +kernel)
theorem u_dX0_isIn : yX0_isIn.cls = RX0 ∧ yX0_isIn.cls ≠ "java/lang/invoke/MethodHandle" ∧ yX0_isIn.cls ≠ "java/lang/invoke/VarHandle" ∧ (parseMethodDescriptor yX0_isIn.desc).map (fun d => d.parameters.length) = some 3 := ⟨rfl, by decide +kernel, by decide +kernel, by decide +kernel⟩
theorem kX0_37 : zLkS RX0 37 yX0_isIn cX0_isIn 3 (some .boolean) 3 := zLkS_of (zU_mem 271 (by decide +kernel) (by decide +kernel)) u_sX0_isIn u_iniX0 u_cX0_isIn u_dX0_isIn
theorem u_cX0_phaseAfterFirstDigit : Cond.code yX0_phaseAfterFirstDigit cX0_phaseAfterFirstDigit 1 (some .int) ∈ zU := zU_mem 276 (by decide +kernel) (by decide +kernel)
theorem u_sX0_phaseAfterFirstDigit : Cond.static yX0_phaseAfterFirstDigit ∈ zU := zU_mem 275 (by decide +kernel) (by decide +kernel)
theorem u_dX0_phaseAfterFirstDigit : yX0_phaseAfterFirstDigit.cls = RX0 ∧ yX0_phaseAfterFirstDigit.cls ≠ "java/lang/invoke/MethodHandle" ∧ yX0_phaseAfterFirstDigit.cls ≠ "java/lang/invoke/VarHandle" ∧ (parseMethodDescriptor yX0_phaseAfterFirstDigit.desc).map (fun d => d.parameters.length) = some 1 := ⟨rfl, by decide +kernel, by decide +kernel, by decide +kernel⟩
theorem kX0_41 : zLkS RX0 41 yX0_phaseAfterFirstDigit cX0_phaseAfterFirstDigit 1 (some .int) 1 := zLkS_of (zU_mem 274 (by decide +kernel) (by decide +kernel)) u_sX0_phaseAfterFirstDigit u_iniX0 u_cX0_phaseAfterFirstDigit u_dX0_phaseAfterFirstDigit
theorem u_cX0_phaseAfterAction : Cond.code yX0_phaseAfterAction cX0_phaseAfterAction 1 (some .int) ∈ zU := zU_mem 279 (by decide +kernel) (by decide +kernel)
theorem u_sX0_phaseAfterAction : Cond.static yX0_phaseAfterAction ∈ zU := zU_mem 278 (by decide +kernel) (by decide +kernel)
theorem u_dX0_phaseAfterAction : yX0_phaseAfterAction.cls = RX0 ∧ yX0_phaseAfterAction.cls ≠ "java/lang/invoke/MethodHandle" ∧ yX0_phaseAfterAction.cls ≠ "java/lang/invoke/VarHandle" ∧ (parseMethodDescriptor yX0_phaseAfterAction.desc).map (fun d => d.parameters.length) = some 1 := ⟨rfl, by decide +kernel, by decide +kernel, by decide +kernel⟩
theorem kX0_44 : zLkS RX0 44 yX0_phaseAfterAction cX0_phaseAfterAction 1 (some .int) 1 := zLkS_of (zU_mem 277 (by decide +kernel) (by decide +kernel)) u_sX0_phaseAfterAction u_iniX0 u_cX0_phaseAfterAction u_dX0_phaseAfterAction
theorem u_cX1_discardOldest : Cond.code yX1_discardOldest cX1_discardOldest 3 none ∈ zU := zU_mem 463 (by decide +kernel) (by decide +kernel)
theorem u_iX1_discardOldest : Cond.instanceMethod yX1_discardOldest ∈ zU := zU_mem 462 (by decide +kernel) (by decide +kernel)
theorem u_vX1_discardOldest : Cond.selects RX1 yX1_discardOldest yX1_discardOldest ∈ zU := zU_mem 5 (by decide +kernel) (by decide +kernel)
theorem u_dX1_discardOldest : yX1_discardOldest.cls = RX1 ∧ yX1_discardOldest.cls ≠ "java/lang/invoke/MethodHandle" ∧ yX1_discardOldest.cls ≠ "java/lang/invoke/VarHandle" ∧ (parseMethodDescriptor yX1_discardOldest.desc).map (fun d => d.parameters.length) = some 0 := ⟨rfl, by decide +kernel, by decide +kernel, by decide +kernel⟩
theorem kX1_22 : zLkV RX1 22 RX1 yX1_discardOldest cX1_discardOldest 3 none 0 := zLkV_of (zU_mem 460 (by decide +kernel) (by decide +kernel)) u_iX1_discardOldest u_vX1_discardOldest u_iniX1 u_cX1_discardOldest u_dX1_discardOldest
theorem kX1_25 : zLkV RX1 25 RX2 yX2_copyFrom cX2_copyFrom 2 none 1 := zLkV_of (zU_mem 464 (by decide +kernel) (by decide +kernel)) u_iX2_copyFrom u_vX2_copyFrom u_iniX2 u_cX2_copyFrom u_dX2_copyFrom
theorem u_cX2_copyRow : Cond.code yX2_copyRow cX2_copyRow 2 none ∈ zU := zU_mem 470 (by decide +kernel) (by decide +kernel)
theorem u_sX2_copyRow : Cond.static yX2_copyRow ∈ zU := zU_mem 469 (by decide +kernel) (by decide +kernel)
theorem u_dX2_copyRow : yX2_copyRow.cls = RX2 ∧ yX2_copyRow.cls ≠ "java/lang/invoke/MethodHandle" ∧ yX2_copyRow.cls ≠ "java/lang/invoke/VarHandle" ∧ (parseMethodDescriptor yX2_copyRow.desc).map (fun d => d.parameters.length) = some 2 := ⟨rfl, by decide +kernel, by decide +kernel, by decide +kernel⟩
theorem kX2_46 : zLkS RX2 46 yX2_copyRow cX2_copyRow 2 none 2 := zLkS_of (zU_mem 468 (by decide +kernel) (by decide +kernel)) u_sX2_copyRow u_iniX2 u_cX2_copyRow u_dX2_copyRow
theorem u_cJ9_min_7cf53 : Cond.code yJ9_min_7cf53 cJ9_min_7cf53 2 (some .int) ∈ zU := zU_mem 473 (by decide +kernel) (by decide +kernel)
theorem u_sJ9_min_7cf53 : Cond.static yJ9_min_7cf53 ∈ zU := zU_mem 472 (by decide +kernel) (by decide +kernel)
theorem u_dJ9_min_7cf53 : yJ9_min_7cf53.cls = RJ9 ∧ yJ9_min_7cf53.cls ≠ "java/lang/invoke/MethodHandle" ∧ yJ9_min_7cf53.cls ≠ "java/lang/invoke/VarHandle" ∧ (parseMethodDescriptor yJ9_min_7cf53.desc).map (fun d => d.parameters.length) = some 2 := ⟨rfl, by decide +kernel, by decide +kernel, by decide +kernel⟩
theorem kX2_62 : zLkV RX2 62 RX2 yX2_hasDeal cX2_hasDeal 2 (some .boolean) 1 := zLkV_of (zU_mem 206 (by decide +kernel) (by decide +kernel)) u_iX2_hasDeal u_vX2_hasDeal u_iniX2 u_cX2_hasDeal u_dX2_hasDeal
theorem kX2_66 : zLkV RX2 66 RX2 yX2_stateOf cX2_stateOf 4 (some .int) 2 := zLkV_of (zU_mem 182 (by decide +kernel) (by decide +kernel)) u_iX2_stateOf u_vX2_stateOf u_iniX2 u_cX2_stateOf u_dX2_stateOf
theorem u_cX2_isEnd : Cond.code yX2_isEnd cX2_isEnd 1 (some .boolean) ∈ zU := zU_mem 215 (by decide +kernel) (by decide +kernel)
theorem u_sX2_isEnd : Cond.static yX2_isEnd ∈ zU := zU_mem 214 (by decide +kernel) (by decide +kernel)
theorem u_dX2_isEnd : yX2_isEnd.cls = RX2 ∧ yX2_isEnd.cls ≠ "java/lang/invoke/MethodHandle" ∧ yX2_isEnd.cls ≠ "java/lang/invoke/VarHandle" ∧ (parseMethodDescriptor yX2_isEnd.desc).map (fun d => d.parameters.length) = some 1 := ⟨rfl, by decide +kernel, by decide +kernel, by decide +kernel⟩
theorem kX2_69 : zLkS RX2 69 yX2_isEnd cX2_isEnd 1 (some .boolean) 1 := zLkS_of (zU_mem 213 (by decide +kernel) (by decide +kernel)) u_sX2_isEnd u_iniX2 u_cX2_isEnd u_dX2_isEnd
theorem kX2_75 : zLkV RX2 75 RX2 yX2_entriesOf cX2_entriesOf 2 (some .int) 1 := zLkV_of (zU_mem 308 (by decide +kernel) (by decide +kernel)) u_iX2_entriesOf u_vX2_entriesOf u_iniX2 u_cX2_entriesOf u_dX2_entriesOf
theorem kX2_79 : zLkV RX2 79 RX2 yX2_isAwake cX2_isAwake 2 (some .boolean) 1 := zLkV_of (zU_mem 220 (by decide +kernel) (by decide +kernel)) u_iX2_isAwake u_vX2_isAwake u_iniX2 u_cX2_isAwake u_dX2_isAwake
theorem kX2_82 : zLkV RX2 82 RX2 yX2_leaderOf cX2_leaderOf 2 (some .int) 1 := zLkV_of (zU_mem 202 (by decide +kernel) (by decide +kernel)) u_iX2_leaderOf u_vX2_leaderOf u_iniX2 u_cX2_leaderOf u_dX2_leaderOf
theorem kX2_85 : zLkV RX2 85 RX2 yX2_decisionOf cX2_decisionOf 2 (some .int) 1 := zLkV_of (zU_mem 323 (by decide +kernel) (by decide +kernel)) u_iX2_decisionOf u_vX2_decisionOf u_iniX2 u_cX2_decisionOf u_dX2_decisionOf
theorem kX2_88 : zLkV RX2 88 RX2 yX2_canBegin cX2_canBegin 4 (some .boolean) 2 := zLkV_of (zU_mem 481 (by decide +kernel) (by decide +kernel)) u_iX2_canBegin u_vX2_canBegin u_iniX2 u_cX2_canBegin u_dX2_canBegin
theorem kX2_92 : zLkV RX2 92 RX2 yX2_canVote cX2_canVote 3 (some .boolean) 2 := zLkV_of (zU_mem 508 (by decide +kernel) (by decide +kernel)) u_iX2_canVote u_vX2_canVote u_iniX2 u_cX2_canVote u_dX2_canVote
theorem u_cX2_holdsForAnother : Cond.code yX2_holdsForAnother cX2_holdsForAnother 4 (some .boolean) ∈ zU := zU_mem 512 (by decide +kernel) (by decide +kernel)
theorem u_iX2_holdsForAnother : Cond.instanceMethod yX2_holdsForAnother ∈ zU := zU_mem 511 (by decide +kernel) (by decide +kernel)
theorem u_vX2_holdsForAnother : Cond.selects RX2 yX2_holdsForAnother yX2_holdsForAnother ∈ zU := zU_mem 8 (by decide +kernel) (by decide +kernel)
theorem u_dX2_holdsForAnother : yX2_holdsForAnother.cls = RX2 ∧ yX2_holdsForAnother.cls ≠ "java/lang/invoke/MethodHandle" ∧ yX2_holdsForAnother.cls ≠ "java/lang/invoke/VarHandle" ∧ (parseMethodDescriptor yX2_holdsForAnother.desc).map (fun d => d.parameters.length) = some 2 := ⟨rfl, by decide +kernel, by decide +kernel, by decide +kernel⟩
theorem kX2_95 : zLkV RX2 95 RX2 yX2_holdsForAnother cX2_holdsForAnother 4 (some .boolean) 2 := zLkV_of (zU_mem 509 (by decide +kernel) (by decide +kernel)) u_iX2_holdsForAnother u_vX2_holdsForAnother u_iniX2 u_cX2_holdsForAnother u_dX2_holdsForAnother
theorem u_cX2_enter : Cond.code yX2_enter cX2_enter 4 none ∈ zU := zU_mem 516 (by decide +kernel) (by decide +kernel)
theorem u_iX2_enter : Cond.instanceMethod yX2_enter ∈ zU := zU_mem 515 (by decide +kernel) (by decide +kernel)
theorem u_vX2_enter : Cond.selects RX2 yX2_enter yX2_enter ∈ zU := zU_mem 9 (by decide +kernel) (by decide +kernel)
theorem u_dX2_enter : yX2_enter.cls = RX2 ∧ yX2_enter.cls ≠ "java/lang/invoke/MethodHandle" ∧ yX2_enter.cls ≠ "java/lang/invoke/VarHandle" ∧ (parseMethodDescriptor yX2_enter.desc).map (fun d => d.parameters.length) = some 3 := ⟨rfl, by decide +kernel, by decide +kernel, by decide +kernel⟩
theorem kX2_98 : zLkV RX2 98 RX2 yX2_enter cX2_enter 4 none 3 := zLkV_of (zU_mem 513 (by decide +kernel) (by decide +kernel)) u_iX2_enter u_vX2_enter u_iniX2 u_cX2_enter u_dX2_enter
theorem kX2_102 : zLkV RX2 102 RX2 yX2_canDecide cX2_canDecide 2 (some .boolean) 1 := zLkV_of (zU_mem 537 (by decide +kernel) (by decide +kernel)) u_iX2_canDecide u_vX2_canDecide u_iniX2 u_cX2_canDecide u_dX2_canDecide
theorem u_cX2_areAllInDoubt : Cond.code yX2_areAllInDoubt cX2_areAllInDoubt 4 (some .boolean) ∈ zU := zU_mem 541 (by decide +kernel) (by decide +kernel)
theorem u_iX2_areAllInDoubt : Cond.instanceMethod yX2_areAllInDoubt ∈ zU := zU_mem 540 (by decide +kernel) (by decide +kernel)
theorem u_vX2_areAllInDoubt : Cond.selects RX2 yX2_areAllInDoubt yX2_areAllInDoubt ∈ zU := zU_mem 11 (by decide +kernel) (by decide +kernel)
theorem u_dX2_areAllInDoubt : yX2_areAllInDoubt.cls = RX2 ∧ yX2_areAllInDoubt.cls ≠ "java/lang/invoke/MethodHandle" ∧ yX2_areAllInDoubt.cls ≠ "java/lang/invoke/VarHandle" ∧ (parseMethodDescriptor yX2_areAllInDoubt.desc).map (fun d => d.parameters.length) = some 1 := ⟨rfl, by decide +kernel, by decide +kernel, by decide +kernel⟩
theorem kX2_105 : zLkV RX2 105 RX2 yX2_areAllInDoubt cX2_areAllInDoubt 4 (some .boolean) 1 := zLkV_of (zU_mem 538 (by decide +kernel) (by decide +kernel)) u_iX2_areAllInDoubt u_vX2_areAllInDoubt u_iniX2 u_cX2_areAllInDoubt u_dX2_areAllInDoubt
theorem u_cX2_settle : Cond.code yX2_settle cX2_settle 3 none ∈ zU := zU_mem 545 (by decide +kernel) (by decide +kernel)
theorem u_iX2_settle : Cond.instanceMethod yX2_settle ∈ zU := zU_mem 544 (by decide +kernel) (by decide +kernel)
theorem u_vX2_settle : Cond.selects RX2 yX2_settle yX2_settle ∈ zU := zU_mem 12 (by decide +kernel) (by decide +kernel)
theorem u_dX2_settle : yX2_settle.cls = RX2 ∧ yX2_settle.cls ≠ "java/lang/invoke/MethodHandle" ∧ yX2_settle.cls ≠ "java/lang/invoke/VarHandle" ∧ (parseMethodDescriptor yX2_settle.desc).map (fun d => d.parameters.length) = some 2 := ⟨rfl, by decide +kernel, by decide +kernel, by decide +kernel⟩
theorem kX2_108 : zLkV RX2 108 RX2 yX2_settle cX2_settle 3 none 2 := zLkV_of (zU_mem 542 (by decide +kernel) (by decide +kernel)) u_iX2_settle u_vX2_settle u_iniX2 u_cX2_settle u_dX2_settle
theorem kX2_112 : zLkV RX2 112 RX2 yX2_canTell cX2_canTell 4 (some .boolean) 2 := zLkV_of (zU_mem 562 (by decide +kernel) (by decide +kernel)) u_iX2_canTell u_vX2_canTell u_iniX2 u_cX2_canTell u_dX2_canTell
theorem kX2_115 : zLkV RX2 115 RX2 yX2_canAsk cX2_canAsk 4 (some .boolean) 3 := zLkV_of (zU_mem 216 (by decide +kernel) (by decide +kernel)) u_iX2_canAsk u_vX2_canAsk u_iniX2 u_cX2_canAsk u_dX2_canAsk
theorem u_cX2_write : Cond.code yX2_write cX2_write 3 none ∈ zU := zU_mem 520 (by decide +kernel) (by decide +kernel)
theorem u_iX2_write : Cond.instanceMethod yX2_write ∈ zU := zU_mem 519 (by decide +kernel) (by decide +kernel)
theorem u_vX2_write : Cond.selects RX2 yX2_write yX2_write ∈ zU := zU_mem 10 (by decide +kernel) (by decide +kernel)
theorem u_dX2_write : yX2_write.cls = RX2 ∧ yX2_write.cls ≠ "java/lang/invoke/MethodHandle" ∧ yX2_write.cls ≠ "java/lang/invoke/VarHandle" ∧ (parseMethodDescriptor yX2_write.desc).map (fun d => d.parameters.length) = some 2 := ⟨rfl, by decide +kernel, by decide +kernel, by decide +kernel⟩
theorem kX2_119 : zLkV RX2 119 RX2 yX2_write cX2_write 3 none 2 := zLkV_of (zU_mem 517 (by decide +kernel) (by decide +kernel)) u_iX2_write u_vX2_write u_iniX2 u_cX2_write u_dX2_write
theorem kX2_122 : zLkV RX2 122 RX2 yX2_countInState cX2_countInState 5 (some .int) 1 := zLkV_of (zU_mem 240 (by decide +kernel) (by decide +kernel)) u_iX2_countInState u_vX2_countInState u_iniX2 u_cX2_countInState u_dX2_countInState
theorem kX2_125 : zLkV RX2 125 RX2 yX2_tickDeal cX2_tickDeal 4 none 1 := zLkV_of (zU_mem 614 (by decide +kernel) (by decide +kernel)) u_iX2_tickDeal u_vX2_tickDeal u_iniX2 u_cX2_tickDeal u_dX2_tickDeal
theorem u_cX2_losesPatience : Cond.code yX2_losesPatience cX2_losesPatience 4 (some .boolean) ∈ zU := zU_mem 621 (by decide +kernel) (by decide +kernel)
theorem u_iX2_losesPatience : Cond.instanceMethod yX2_losesPatience ∈ zU := zU_mem 620 (by decide +kernel) (by decide +kernel)
theorem u_vX2_losesPatience : Cond.selects RX2 yX2_losesPatience yX2_losesPatience ∈ zU := zU_mem 13 (by decide +kernel) (by decide +kernel)
theorem u_dX2_losesPatience : yX2_losesPatience.cls = RX2 ∧ yX2_losesPatience.cls ≠ "java/lang/invoke/MethodHandle" ∧ yX2_losesPatience.cls ≠ "java/lang/invoke/VarHandle" ∧ (parseMethodDescriptor yX2_losesPatience.desc).map (fun d => d.parameters.length) = some 2 := ⟨rfl, by decide +kernel, by decide +kernel, by decide +kernel⟩
theorem kX2_129 : zLkV RX2 129 RX2 yX2_losesPatience cX2_losesPatience 4 (some .boolean) 2 := zLkV_of (zU_mem 618 (by decide +kernel) (by decide +kernel)) u_iX2_losesPatience u_vX2_losesPatience u_iniX2 u_cX2_losesPatience u_dX2_losesPatience
theorem kX2_132 : zLkV RX2 132 RX2 yX2_putQuestion cX2_putQuestion 5 (some .int) 3 := zLkV_of (zU_mem 622 (by decide +kernel) (by decide +kernel)) u_iX2_putQuestion u_vX2_putQuestion u_iniX2 u_cX2_putQuestion u_dX2_putQuestion
theorem u_cX2_isOpen : Cond.code yX2_isOpen cX2_isOpen 4 (some .boolean) ∈ zU := zU_mem 181 (by decide +kernel) (by decide +kernel)
theorem u_iX2_isOpen : Cond.instanceMethod yX2_isOpen ∈ zU := zU_mem 180 (by decide +kernel) (by decide +kernel)
theorem u_vX2_isOpen : Cond.selects RX2 yX2_isOpen yX2_isOpen ∈ zU := zU_mem 0 (by decide +kernel) (by decide +kernel)
theorem u_dX2_isOpen : yX2_isOpen.cls = RX2 ∧ yX2_isOpen.cls ≠ "java/lang/invoke/MethodHandle" ∧ yX2_isOpen.cls ≠ "java/lang/invoke/VarHandle" ∧ (parseMethodDescriptor yX2_isOpen.desc).map (fun d => d.parameters.length) = some 1 := ⟨rfl, by decide +kernel, by decide +kernel, by decide +kernel⟩
theorem kX2_136 : zLkV RX2 136 RX2 yX2_isOpen cX2_isOpen 4 (some .boolean) 1 := zLkV_of (zU_mem 178 (by decide +kernel) (by decide +kernel)) u_iX2_isOpen u_vX2_isOpen u_iniX2 u_cX2_isOpen u_dX2_isOpen
theorem u_cX2_isStuck : Cond.code yX2_isStuck cX2_isStuck 4 (some .boolean) ∈ zU := zU_mem 197 (by decide +kernel) (by decide +kernel)
theorem u_iX2_isStuck : Cond.instanceMethod yX2_isStuck ∈ zU := zU_mem 196 (by decide +kernel) (by decide +kernel)
theorem u_vX2_isStuck : Cond.selects RX2 yX2_isStuck yX2_isStuck ∈ zU := zU_mem 1 (by decide +kernel) (by decide +kernel)
theorem u_dX2_isStuck : yX2_isStuck.cls = RX2 ∧ yX2_isStuck.cls ≠ "java/lang/invoke/MethodHandle" ∧ yX2_isStuck.cls ≠ "java/lang/invoke/VarHandle" ∧ (parseMethodDescriptor yX2_isStuck.desc).map (fun d => d.parameters.length) = some 1 := ⟨rfl, by decide +kernel, by decide +kernel, by decide +kernel⟩
theorem kX2_139 : zLkV RX2 139 RX2 yX2_isStuck cX2_isStuck 4 (some .boolean) 1 := zLkV_of (zU_mem 194 (by decide +kernel) (by decide +kernel)) u_iX2_isStuck u_vX2_isStuck u_iniX2 u_cX2_isStuck u_dX2_isStuck
theorem kX2_142 : zLkV RX2 142 RX2 yX2_helperFor cX2_helperFor 6 (some .int) 2 := zLkV_of (zU_mem 198 (by decide +kernel) (by decide +kernel)) u_iX2_helperFor u_vX2_helperFor u_iniX2 u_cX2_helperFor u_dX2_helperFor
theorem u_cX2_isAnswer : Cond.code yX2_isAnswer cX2_isAnswer 1 (some .boolean) ∈ zU := zU_mem 212 (by decide +kernel) (by decide +kernel)
theorem u_sX2_isAnswer : Cond.static yX2_isAnswer ∈ zU := zU_mem 211 (by decide +kernel) (by decide +kernel)
theorem u_dX2_isAnswer : yX2_isAnswer.cls = RX2 ∧ yX2_isAnswer.cls ≠ "java/lang/invoke/MethodHandle" ∧ yX2_isAnswer.cls ≠ "java/lang/invoke/VarHandle" ∧ (parseMethodDescriptor yX2_isAnswer.desc).map (fun d => d.parameters.length) = some 1 := ⟨rfl, by decide +kernel, by decide +kernel, by decide +kernel⟩
theorem kX2_145 : zLkS RX2 145 yX2_isAnswer cX2_isAnswer 1 (some .boolean) 1 := zLkS_of (zU_mem 210 (by decide +kernel) (by decide +kernel)) u_sX2_isAnswer u_iniX2 u_cX2_isAnswer u_dX2_isAnswer
theorem kX2_152 : zLkV RX2 152 RX2 yX2_countOpen cX2_countOpen 3 (some .int) 0 := zLkV_of (zU_mem 298 (by decide +kernel) (by decide +kernel)) u_iX2_countOpen u_vX2_countOpen u_iniX2 u_cX2_countOpen u_dX2_countOpen
theorem kX2_156 : zLkV RX2 156 RX2 yX2_countStuck cX2_countStuck 3 (some .int) 0 := zLkV_of (zU_mem 299 (by decide +kernel) (by decide +kernel)) u_iX2_countStuck u_vX2_countStuck u_iniX2 u_cX2_countStuck u_dX2_countStuck
theorem u_cX2_hashSite : Cond.code yX2_hashSite cX2_hashSite 8 (some .long) ∈ zU := zU_mem 303 (by decide +kernel) (by decide +kernel)
theorem u_iX2_hashSite : Cond.instanceMethod yX2_hashSite ∈ zU := zU_mem 302 (by decide +kernel) (by decide +kernel)
theorem u_vX2_hashSite : Cond.selects RX2 yX2_hashSite yX2_hashSite ∈ zU := zU_mem 2 (by decide +kernel) (by decide +kernel)
theorem u_dX2_hashSite : yX2_hashSite.cls = RX2 ∧ yX2_hashSite.cls ≠ "java/lang/invoke/MethodHandle" ∧ yX2_hashSite.cls ≠ "java/lang/invoke/VarHandle" ∧ (parseMethodDescriptor yX2_hashSite.desc).map (fun d => d.parameters.length) = some 2 := ⟨rfl, by decide +kernel, by decide +kernel, by decide +kernel⟩
theorem kX2_159 : zLkV RX2 159 RX2 yX2_hashSite cX2_hashSite 8 (some .long) 2 := zLkV_of (zU_mem 300 (by decide +kernel) (by decide +kernel)) u_iX2_hashSite u_vX2_hashSite u_iniX2 u_cX2_hashSite u_dX2_hashSite
theorem u_cX2_hashDeal : Cond.code yX2_hashDeal cX2_hashDeal 7 (some .long) ∈ zU := zU_mem 322 (by decide +kernel) (by decide +kernel)
theorem u_iX2_hashDeal : Cond.instanceMethod yX2_hashDeal ∈ zU := zU_mem 321 (by decide +kernel) (by decide +kernel)
theorem u_vX2_hashDeal : Cond.selects RX2 yX2_hashDeal yX2_hashDeal ∈ zU := zU_mem 3 (by decide +kernel) (by decide +kernel)
theorem u_dX2_hashDeal : yX2_hashDeal.cls = RX2 ∧ yX2_hashDeal.cls ≠ "java/lang/invoke/MethodHandle" ∧ yX2_hashDeal.cls ≠ "java/lang/invoke/VarHandle" ∧ (parseMethodDescriptor yX2_hashDeal.desc).map (fun d => d.parameters.length) = some 2 := ⟨rfl, by decide +kernel, by decide +kernel, by decide +kernel⟩
theorem kX2_163 : zLkV RX2 163 RX2 yX2_hashDeal cX2_hashDeal 7 (some .long) 2 := zLkV_of (zU_mem 319 (by decide +kernel) (by decide +kernel)) u_iX2_hashDeal u_vX2_hashDeal u_iniX2 u_cX2_hashDeal u_dX2_hashDeal
theorem kX2_166 : zLkV RX2 166 RX2 yX2_itemsHeldBy cX2_itemsHeldBy 4 (some .int) 1 := zLkV_of (zU_mem 304 (by decide +kernel) (by decide +kernel)) u_iX2_itemsHeldBy u_vX2_itemsHeldBy u_iniX2 u_cX2_itemsHeldBy u_dX2_itemsHeldBy
theorem kX2_169 : zLkV RX2 169 RX2 yX2_entryAt cX2_entryAt 3 (some .int) 2 := zLkV_of (zU_mem 315 (by decide +kernel) (by decide +kernel)) u_iX2_entryAt u_vX2_entryAt u_iniX2 u_cX2_entryAt u_dX2_entryAt
theorem kX2_172 : zLkV RX2 172 RX2 yX2_patienceOf cX2_patienceOf 3 (some .int) 2 := zLkV_of (zU_mem 327 (by decide +kernel) (by decide +kernel)) u_iX2_patienceOf u_vX2_patienceOf u_iniX2 u_cX2_patienceOf u_dX2_patienceOf
theorem u_cX3_begin : Cond.code yX3_begin cX3_begin 4 (some .int) ∈ zU := zU_mem 340 (by decide +kernel) (by decide +kernel)
theorem u_iX3_begin : Cond.instanceMethod yX3_begin ∈ zU := zU_mem 338 (by decide +kernel) (by decide +kernel)
theorem u_vX3_begin : Cond.selects RX3 yX3_begin yX3_begin ∈ zU := zU_mem 339 (by decide +kernel) (by decide +kernel)
theorem u_dX3_begin : yX3_begin.cls = RX3 ∧ yX3_begin.cls ≠ "java/lang/invoke/MethodHandle" ∧ yX3_begin.cls ≠ "java/lang/invoke/VarHandle" ∧ (parseMethodDescriptor yX3_begin.desc).map (fun d => d.parameters.length) = some 3 := ⟨rfl, by decide +kernel, by decide +kernel, by decide +kernel⟩
theorem u_cX3_vote : Cond.code yX3_vote cX3_vote 4 (some .int) ∈ zU := zU_mem 488 (by decide +kernel) (by decide +kernel)
theorem u_iX3_vote : Cond.instanceMethod yX3_vote ∈ zU := zU_mem 486 (by decide +kernel) (by decide +kernel)
theorem u_vX3_vote : Cond.selects RX3 yX3_vote yX3_vote ∈ zU := zU_mem 487 (by decide +kernel) (by decide +kernel)
theorem u_dX3_vote : yX3_vote.cls = RX3 ∧ yX3_vote.cls ≠ "java/lang/invoke/MethodHandle" ∧ yX3_vote.cls ≠ "java/lang/invoke/VarHandle" ∧ (parseMethodDescriptor yX3_vote.desc).map (fun d => d.parameters.length) = some 3 := ⟨rfl, by decide +kernel, by decide +kernel, by decide +kernel⟩
theorem u_cX3_decide : Cond.code yX3_decide cX3_decide 2 (some .int) ∈ zU := zU_mem 527 (by decide +kernel) (by decide +kernel)
theorem u_iX3_decide : Cond.instanceMethod yX3_decide ∈ zU := zU_mem 525 (by decide +kernel) (by decide +kernel)
theorem u_vX3_decide : Cond.selects RX3 yX3_decide yX3_decide ∈ zU := zU_mem 526 (by decide +kernel) (by decide +kernel)
theorem u_dX3_decide : yX3_decide.cls = RX3 ∧ yX3_decide.cls ≠ "java/lang/invoke/MethodHandle" ∧ yX3_decide.cls ≠ "java/lang/invoke/VarHandle" ∧ (parseMethodDescriptor yX3_decide.desc).map (fun d => d.parameters.length) = some 1 := ⟨rfl, by decide +kernel, by decide +kernel, by decide +kernel⟩
theorem u_cX3_tell : Cond.code yX3_tell cX3_tell 3 (some .int) ∈ zU := zU_mem 552 (by decide +kernel) (by decide +kernel)
theorem u_iX3_tell : Cond.instanceMethod yX3_tell ∈ zU := zU_mem 550 (by decide +kernel) (by decide +kernel)
theorem u_vX3_tell : Cond.selects RX3 yX3_tell yX3_tell ∈ zU := zU_mem 551 (by decide +kernel) (by decide +kernel)
theorem u_dX3_tell : yX3_tell.cls = RX3 ∧ yX3_tell.cls ≠ "java/lang/invoke/MethodHandle" ∧ yX3_tell.cls ≠ "java/lang/invoke/VarHandle" ∧ (parseMethodDescriptor yX3_tell.desc).map (fun d => d.parameters.length) = some 2 := ⟨rfl, by decide +kernel, by decide +kernel, by decide +kernel⟩
theorem u_cX3_ask : Cond.code yX3_ask cX3_ask 4 (some .int) ∈ zU := zU_mem 569 (by decide +kernel) (by decide +kernel)
theorem u_iX3_ask : Cond.instanceMethod yX3_ask ∈ zU := zU_mem 567 (by decide +kernel) (by decide +kernel)
theorem u_vX3_ask : Cond.selects RX3 yX3_ask yX3_ask ∈ zU := zU_mem 568 (by decide +kernel) (by decide +kernel)
theorem u_dX3_ask : yX3_ask.cls = RX3 ∧ yX3_ask.cls ≠ "java/lang/invoke/MethodHandle" ∧ yX3_ask.cls ≠ "java/lang/invoke/VarHandle" ∧ (parseMethodDescriptor yX3_ask.desc).map (fun d => d.parameters.length) = some 3 := ⟨rfl, by decide +kernel, by decide +kernel, by decide +kernel⟩
theorem u_cX3_fallSilent : Cond.code yX3_fallSilent cX3_fallSilent 2 (some .int) ∈ zU := zU_mem 583 (by decide +kernel) (by decide +kernel)
theorem u_iX3_fallSilent : Cond.instanceMethod yX3_fallSilent ∈ zU := zU_mem 581 (by decide +kernel) (by decide +kernel)
theorem u_vX3_fallSilent : Cond.selects RX3 yX3_fallSilent yX3_fallSilent ∈ zU := zU_mem 582 (by decide +kernel) (by decide +kernel)
theorem u_dX3_fallSilent : yX3_fallSilent.cls = RX3 ∧ yX3_fallSilent.cls ≠ "java/lang/invoke/MethodHandle" ∧ yX3_fallSilent.cls ≠ "java/lang/invoke/VarHandle" ∧ (parseMethodDescriptor yX3_fallSilent.desc).map (fun d => d.parameters.length) = some 1 := ⟨rfl, by decide +kernel, by decide +kernel, by decide +kernel⟩
theorem u_cX3_comeBack : Cond.code yX3_comeBack cX3_comeBack 2 (some .int) ∈ zU := zU_mem 596 (by decide +kernel) (by decide +kernel)
theorem u_iX3_comeBack : Cond.instanceMethod yX3_comeBack ∈ zU := zU_mem 594 (by decide +kernel) (by decide +kernel)
theorem u_vX3_comeBack : Cond.selects RX3 yX3_comeBack yX3_comeBack ∈ zU := zU_mem 595 (by decide +kernel) (by decide +kernel)
theorem u_dX3_comeBack : yX3_comeBack.cls = RX3 ∧ yX3_comeBack.cls ≠ "java/lang/invoke/MethodHandle" ∧ yX3_comeBack.cls ≠ "java/lang/invoke/VarHandle" ∧ (parseMethodDescriptor yX3_comeBack.desc).map (fun d => d.parameters.length) = some 1 := ⟨rfl, by decide +kernel, by decide +kernel, by decide +kernel⟩
theorem u_cX3_pass : Cond.code yX3_pass cX3_pass 2 (some .int) ∈ zU := zU_mem 608 (by decide +kernel) (by decide +kernel)
theorem u_iX3_pass : Cond.instanceMethod yX3_pass ∈ zU := zU_mem 606 (by decide +kernel) (by decide +kernel)
theorem u_vX3_pass : Cond.selects RX3 yX3_pass yX3_pass ∈ zU := zU_mem 607 (by decide +kernel) (by decide +kernel)
theorem u_dX3_pass : yX3_pass.cls = RX3 ∧ yX3_pass.cls ≠ "java/lang/invoke/MethodHandle" ∧ yX3_pass.cls ≠ "java/lang/invoke/VarHandle" ∧ (parseMethodDescriptor yX3_pass.desc).map (fun d => d.parameters.length) = some 1 := ⟨rfl, by decide +kernel, by decide +kernel, by decide +kernel⟩
theorem u_cX3_setPatience : Cond.code yX3_setPatience cX3_setPatience 2 (some .int) ∈ zU := zU_mem 629 (by decide +kernel) (by decide +kernel)
theorem u_iX3_setPatience : Cond.instanceMethod yX3_setPatience ∈ zU := zU_mem 627 (by decide +kernel) (by decide +kernel)
theorem u_vX3_setPatience : Cond.selects RX3 yX3_setPatience yX3_setPatience ∈ zU := zU_mem 628 (by decide +kernel) (by decide +kernel)
theorem u_dX3_setPatience : yX3_setPatience.cls = RX3 ∧ yX3_setPatience.cls ≠ "java/lang/invoke/MethodHandle" ∧ yX3_setPatience.cls ≠ "java/lang/invoke/VarHandle" ∧ (parseMethodDescriptor yX3_setPatience.desc).map (fun d => d.parameters.length) = some 1 := ⟨rfl, by decide +kernel, by decide +kernel, by decide +kernel⟩
theorem u_cX3_isUp : Cond.code yX3_isUp cX3_isUp 2 (some .boolean) ∈ zU := zU_mem 641 (by decide +kernel) (by decide +kernel)
theorem u_iX3_isUp : Cond.instanceMethod yX3_isUp ∈ zU := zU_mem 639 (by decide +kernel) (by decide +kernel)
theorem u_vX3_isUp : Cond.selects RX3 yX3_isUp yX3_isUp ∈ zU := zU_mem 640 (by decide +kernel) (by decide +kernel)
theorem u_dX3_isUp : yX3_isUp.cls = RX3 ∧ yX3_isUp.cls ≠ "java/lang/invoke/MethodHandle" ∧ yX3_isUp.cls ≠ "java/lang/invoke/VarHandle" ∧ (parseMethodDescriptor yX3_isUp.desc).map (fun d => d.parameters.length) = some 1 := ⟨rfl, by decide +kernel, by decide +kernel, by decide +kernel⟩
theorem u_cX3_state : Cond.code yX3_state cX3_state 3 (some .int) ∈ zU := zU_mem 648 (by decide +kernel) (by decide +kernel)
theorem u_iX3_state : Cond.instanceMethod yX3_state ∈ zU := zU_mem 646 (by decide +kernel) (by decide +kernel)
theorem u_vX3_state : Cond.selects RX3 yX3_state yX3_state ∈ zU := zU_mem 647 (by decide +kernel) (by decide +kernel)
theorem u_dX3_state : yX3_state.cls = RX3 ∧ yX3_state.cls ≠ "java/lang/invoke/MethodHandle" ∧ yX3_state.cls ≠ "java/lang/invoke/VarHandle" ∧ (parseMethodDescriptor yX3_state.desc).map (fun d => d.parameters.length) = some 2 := ⟨rfl, by decide +kernel, by decide +kernel, by decide +kernel⟩
theorem u_cX3_decision : Cond.code yX3_decision cX3_decision 2 (some .int) ∈ zU := zU_mem 656 (by decide +kernel) (by decide +kernel)
theorem u_iX3_decision : Cond.instanceMethod yX3_decision ∈ zU := zU_mem 654 (by decide +kernel) (by decide +kernel)
theorem u_vX3_decision : Cond.selects RX3 yX3_decision yX3_decision ∈ zU := zU_mem 655 (by decide +kernel) (by decide +kernel)
theorem u_dX3_decision : yX3_decision.cls = RX3 ∧ yX3_decision.cls ≠ "java/lang/invoke/MethodHandle" ∧ yX3_decision.cls ≠ "java/lang/invoke/VarHandle" ∧ (parseMethodDescriptor yX3_decision.desc).map (fun d => d.parameters.length) = some 1 := ⟨rfl, by decide +kernel, by decide +kernel, by decide +kernel⟩
theorem u_cX3_leader : Cond.code yX3_leader cX3_leader 2 (some .int) ∈ zU := zU_mem 664 (by decide +kernel) (by decide +kernel)
theorem u_iX3_leader : Cond.instanceMethod yX3_leader ∈ zU := zU_mem 662 (by decide +kernel) (by decide +kernel)
theorem u_vX3_leader : Cond.selects RX3 yX3_leader yX3_leader ∈ zU := zU_mem 663 (by decide +kernel) (by decide +kernel)
theorem u_dX3_leader : yX3_leader.cls = RX3 ∧ yX3_leader.cls ≠ "java/lang/invoke/MethodHandle" ∧ yX3_leader.cls ≠ "java/lang/invoke/VarHandle" ∧ (parseMethodDescriptor yX3_leader.desc).map (fun d => d.parameters.length) = some 1 := ⟨rfl, by decide +kernel, by decide +kernel, by decide +kernel⟩
theorem u_cX3_patience : Cond.code yX3_patience cX3_patience 3 (some .int) ∈ zU := zU_mem 672 (by decide +kernel) (by decide +kernel)
theorem u_iX3_patience : Cond.instanceMethod yX3_patience ∈ zU := zU_mem 670 (by decide +kernel) (by decide +kernel)
theorem u_vX3_patience : Cond.selects RX3 yX3_patience yX3_patience ∈ zU := zU_mem 671 (by decide +kernel) (by decide +kernel)
theorem u_dX3_patience : yX3_patience.cls = RX3 ∧ yX3_patience.cls ≠ "java/lang/invoke/MethodHandle" ∧ yX3_patience.cls ≠ "java/lang/invoke/VarHandle" ∧ (parseMethodDescriptor yX3_patience.desc).map (fun d => d.parameters.length) = some 2 := ⟨rfl, by decide +kernel, by decide +kernel, by decide +kernel⟩
theorem u_cX3_logLength : Cond.code yX3_logLength cX3_logLength 2 (some .int) ∈ zU := zU_mem 680 (by decide +kernel) (by decide +kernel)
theorem u_iX3_logLength : Cond.instanceMethod yX3_logLength ∈ zU := zU_mem 678 (by decide +kernel) (by decide +kernel)
theorem u_vX3_logLength : Cond.selects RX3 yX3_logLength yX3_logLength ∈ zU := zU_mem 679 (by decide +kernel) (by decide +kernel)
theorem u_dX3_logLength : yX3_logLength.cls = RX3 ∧ yX3_logLength.cls ≠ "java/lang/invoke/MethodHandle" ∧ yX3_logLength.cls ≠ "java/lang/invoke/VarHandle" ∧ (parseMethodDescriptor yX3_logLength.desc).map (fun d => d.parameters.length) = some 1 := ⟨rfl, by decide +kernel, by decide +kernel, by decide +kernel⟩
theorem u_cX3_log : Cond.code yX3_log cX3_log 3 (some .int) ∈ zU := zU_mem 688 (by decide +kernel) (by decide +kernel)
theorem u_iX3_log : Cond.instanceMethod yX3_log ∈ zU := zU_mem 686 (by decide +kernel) (by decide +kernel)
theorem u_vX3_log : Cond.selects RX3 yX3_log yX3_log ∈ zU := zU_mem 687 (by decide +kernel) (by decide +kernel)
theorem u_dX3_log : yX3_log.cls = RX3 ∧ yX3_log.cls ≠ "java/lang/invoke/MethodHandle" ∧ yX3_log.cls ≠ "java/lang/invoke/VarHandle" ∧ (parseMethodDescriptor yX3_log.desc).map (fun d => d.parameters.length) = some 2 := ⟨rfl, by decide +kernel, by decide +kernel, by decide +kernel⟩
theorem u_cX3_held : Cond.code yX3_held cX3_held 2 (some .int) ∈ zU := zU_mem 697 (by decide +kernel) (by decide +kernel)
theorem u_iX3_held : Cond.instanceMethod yX3_held ∈ zU := zU_mem 695 (by decide +kernel) (by decide +kernel)
theorem u_vX3_held : Cond.selects RX3 yX3_held yX3_held ∈ zU := zU_mem 696 (by decide +kernel) (by decide +kernel)
theorem u_dX3_held : yX3_held.cls = RX3 ∧ yX3_held.cls ≠ "java/lang/invoke/MethodHandle" ∧ yX3_held.cls ≠ "java/lang/invoke/VarHandle" ∧ (parseMethodDescriptor yX3_held.desc).map (fun d => d.parameters.length) = some 1 := ⟨rfl, by decide +kernel, by decide +kernel, by decide +kernel⟩
theorem u_cX3_reason : Cond.code yX3_reason cX3_reason 3 (some .int) ∈ zU := zU_mem 705 (by decide +kernel) (by decide +kernel)
theorem u_iX3_reason : Cond.instanceMethod yX3_reason ∈ zU := zU_mem 703 (by decide +kernel) (by decide +kernel)
theorem u_vX3_reason : Cond.selects RX3 yX3_reason yX3_reason ∈ zU := zU_mem 704 (by decide +kernel) (by decide +kernel)
theorem u_dX3_reason : yX3_reason.cls = RX3 ∧ yX3_reason.cls ≠ "java/lang/invoke/MethodHandle" ∧ yX3_reason.cls ≠ "java/lang/invoke/VarHandle" ∧ (parseMethodDescriptor yX3_reason.desc).map (fun d => d.parameters.length) = some 2 := ⟨rfl, by decide +kernel, by decide +kernel, by decide +kernel⟩
theorem u_cX3_helper : Cond.code yX3_helper cX3_helper 3 (some .int) ∈ zU := zU_mem 716 (by decide +kernel) (by decide +kernel)
theorem u_iX3_helper : Cond.instanceMethod yX3_helper ∈ zU := zU_mem 714 (by decide +kernel) (by decide +kernel)
theorem u_vX3_helper : Cond.selects RX3 yX3_helper yX3_helper ∈ zU := zU_mem 715 (by decide +kernel) (by decide +kernel)
theorem u_dX3_helper : yX3_helper.cls = RX3 ∧ yX3_helper.cls ≠ "java/lang/invoke/MethodHandle" ∧ yX3_helper.cls ≠ "java/lang/invoke/VarHandle" ∧ (parseMethodDescriptor yX3_helper.desc).map (fun d => d.parameters.length) = some 2 := ⟨rfl, by decide +kernel, by decide +kernel, by decide +kernel⟩
theorem u_cX3_ticksToEnd : Cond.code yX3_ticksToEnd cX3_ticksToEnd 4 (some .int) ∈ zU := zU_mem 724 (by decide +kernel) (by decide +kernel)
theorem u_iX3_ticksToEnd : Cond.instanceMethod yX3_ticksToEnd ∈ zU := zU_mem 722 (by decide +kernel) (by decide +kernel)
theorem u_vX3_ticksToEnd : Cond.selects RX3 yX3_ticksToEnd yX3_ticksToEnd ∈ zU := zU_mem 723 (by decide +kernel) (by decide +kernel)
theorem u_dX3_ticksToEnd : yX3_ticksToEnd.cls = RX3 ∧ yX3_ticksToEnd.cls ≠ "java/lang/invoke/MethodHandle" ∧ yX3_ticksToEnd.cls ≠ "java/lang/invoke/VarHandle" ∧ (parseMethodDescriptor yX3_ticksToEnd.desc).map (fun d => d.parameters.length) = some 2 := ⟨rfl, by decide +kernel, by decide +kernel, by decide +kernel⟩
theorem u_cX3_append : Cond.code yX3_append cX3_append 2 (some .int) ∈ zU := zU_mem 737 (by decide +kernel) (by decide +kernel)
theorem u_iX3_append : Cond.instanceMethod yX3_append ∈ zU := zU_mem 735 (by decide +kernel) (by decide +kernel)
theorem u_vX3_append : Cond.selects RX3 yX3_append yX3_append ∈ zU := zU_mem 736 (by decide +kernel) (by decide +kernel)
theorem u_dX3_append : yX3_append.cls = RX3 ∧ yX3_append.cls ≠ "java/lang/invoke/MethodHandle" ∧ yX3_append.cls ≠ "java/lang/invoke/VarHandle" ∧ (parseMethodDescriptor yX3_append.desc).map (fun d => d.parameters.length) = some 1 := ⟨rfl, by decide +kernel, by decide +kernel, by decide +kernel⟩
theorem u_cX3_run : Cond.code yX3_run cX3_run 5 (some .int) ∈ zU := zU_mem 755 (by decide +kernel) (by decide +kernel)
theorem u_iX3_run : Cond.instanceMethod yX3_run ∈ zU := zU_mem 753 (by decide +kernel) (by decide +kernel)
theorem u_vX3_run : Cond.selects RX3 yX3_run yX3_run ∈ zU := zU_mem 754 (by decide +kernel) (by decide +kernel)
theorem u_dX3_run : yX3_run.cls = RX3 ∧ yX3_run.cls ≠ "java/lang/invoke/MethodHandle" ∧ yX3_run.cls ≠ "java/lang/invoke/VarHandle" ∧ (parseMethodDescriptor yX3_run.desc).map (fun d => d.parameters.length) = some 0 := ⟨rfl, by decide +kernel, by decide +kernel, by decide +kernel⟩
theorem u_cX3_undo : Cond.code yX3_undo cX3_undo 1 (some .int) ∈ zU := zU_mem 789 (by decide +kernel) (by decide +kernel)
theorem u_iX3_undo : Cond.instanceMethod yX3_undo ∈ zU := zU_mem 787 (by decide +kernel) (by decide +kernel)
theorem u_vX3_undo : Cond.selects RX3 yX3_undo yX3_undo ∈ zU := zU_mem 788 (by decide +kernel) (by decide +kernel)
theorem u_dX3_undo : yX3_undo.cls = RX3 ∧ yX3_undo.cls ≠ "java/lang/invoke/MethodHandle" ∧ yX3_undo.cls ≠ "java/lang/invoke/VarHandle" ∧ (parseMethodDescriptor yX3_undo.desc).map (fun d => d.parameters.length) = some 0 := ⟨rfl, by decide +kernel, by decide +kernel, by decide +kernel⟩
theorem u_cX4_begin : Cond.code yX4_begin cX4_begin 7 (some .int) ∈ zU := zU_mem 842 (by decide +kernel) (by decide +kernel)
theorem u_iX4_begin : Cond.instanceMethod yX4_begin ∈ zU := zU_mem 840 (by decide +kernel) (by decide +kernel)
theorem u_vX4_begin : Cond.selects RX4 yX4_begin yX4_begin ∈ zU := zU_mem 841 (by decide +kernel) (by decide +kernel)
theorem u_dX4_begin : yX4_begin.cls = RX4 ∧ yX4_begin.cls ≠ "java/lang/invoke/MethodHandle" ∧ yX4_begin.cls ≠ "java/lang/invoke/VarHandle" ∧ (parseMethodDescriptor yX4_begin.desc).map (fun d => d.parameters.length) = some 3 := ⟨rfl, by decide +kernel, by decide +kernel, by decide +kernel⟩
theorem u_cX4_thrown : Cond.code yX4_thrown cX4_thrown 1 (some .int) ∈ zU := zU_mem 838 (by decide +kernel) (by decide +kernel)
theorem u_iX4_thrown : Cond.instanceMethod yX4_thrown ∈ zU := zU_mem 836 (by decide +kernel) (by decide +kernel)
theorem u_vX4_thrown : Cond.selects RX4 yX4_thrown yX4_thrown ∈ zU := zU_mem 837 (by decide +kernel) (by decide +kernel)
theorem u_dX4_thrown : yX4_thrown.cls = RX4 ∧ yX4_thrown.cls ≠ "java/lang/invoke/MethodHandle" ∧ yX4_thrown.cls ≠ "java/lang/invoke/VarHandle" ∧ (parseMethodDescriptor yX4_thrown.desc).map (fun d => d.parameters.length) = some 0 := ⟨rfl, by decide +kernel, by decide +kernel, by decide +kernel⟩
theorem u_cX4_vote : Cond.code yX4_vote cX4_vote 5 (some .int) ∈ zU := zU_mem 867 (by decide +kernel) (by decide +kernel)
theorem u_iX4_vote : Cond.instanceMethod yX4_vote ∈ zU := zU_mem 865 (by decide +kernel) (by decide +kernel)
theorem u_vX4_vote : Cond.selects RX4 yX4_vote yX4_vote ∈ zU := zU_mem 866 (by decide +kernel) (by decide +kernel)
theorem u_dX4_vote : yX4_vote.cls = RX4 ∧ yX4_vote.cls ≠ "java/lang/invoke/MethodHandle" ∧ yX4_vote.cls ≠ "java/lang/invoke/VarHandle" ∧ (parseMethodDescriptor yX4_vote.desc).map (fun d => d.parameters.length) = some 3 := ⟨rfl, by decide +kernel, by decide +kernel, by decide +kernel⟩
theorem u_cX4_decide : Cond.code yX4_decide cX4_decide 3 (some .int) ∈ zU := zU_mem 915 (by decide +kernel) (by decide +kernel)
theorem u_iX4_decide : Cond.instanceMethod yX4_decide ∈ zU := zU_mem 913 (by decide +kernel) (by decide +kernel)
theorem u_vX4_decide : Cond.selects RX4 yX4_decide yX4_decide ∈ zU := zU_mem 914 (by decide +kernel) (by decide +kernel)
theorem u_dX4_decide : yX4_decide.cls = RX4 ∧ yX4_decide.cls ≠ "java/lang/invoke/MethodHandle" ∧ yX4_decide.cls ≠ "java/lang/invoke/VarHandle" ∧ (parseMethodDescriptor yX4_decide.desc).map (fun d => d.parameters.length) = some 1 := ⟨rfl, by decide +kernel, by decide +kernel, by decide +kernel⟩
theorem u_cX4_tell : Cond.code yX4_tell cX4_tell 4 (some .int) ∈ zU := zU_mem 931 (by decide +kernel) (by decide +kernel)
theorem u_iX4_tell : Cond.instanceMethod yX4_tell ∈ zU := zU_mem 929 (by decide +kernel) (by decide +kernel)
theorem u_vX4_tell : Cond.selects RX4 yX4_tell yX4_tell ∈ zU := zU_mem 930 (by decide +kernel) (by decide +kernel)
theorem u_dX4_tell : yX4_tell.cls = RX4 ∧ yX4_tell.cls ≠ "java/lang/invoke/MethodHandle" ∧ yX4_tell.cls ≠ "java/lang/invoke/VarHandle" ∧ (parseMethodDescriptor yX4_tell.desc).map (fun d => d.parameters.length) = some 2 := ⟨rfl, by decide +kernel, by decide +kernel, by decide +kernel⟩
theorem u_cX4_ask : Cond.code yX4_ask cX4_ask 5 (some .int) ∈ zU := zU_mem 943 (by decide +kernel) (by decide +kernel)
theorem u_iX4_ask : Cond.instanceMethod yX4_ask ∈ zU := zU_mem 941 (by decide +kernel) (by decide +kernel)
theorem u_vX4_ask : Cond.selects RX4 yX4_ask yX4_ask ∈ zU := zU_mem 942 (by decide +kernel) (by decide +kernel)
theorem u_dX4_ask : yX4_ask.cls = RX4 ∧ yX4_ask.cls ≠ "java/lang/invoke/MethodHandle" ∧ yX4_ask.cls ≠ "java/lang/invoke/VarHandle" ∧ (parseMethodDescriptor yX4_ask.desc).map (fun d => d.parameters.length) = some 3 := ⟨rfl, by decide +kernel, by decide +kernel, by decide +kernel⟩
theorem u_cX4_fallSilent : Cond.code yX4_fallSilent cX4_fallSilent 3 (some .int) ∈ zU := zU_mem 959 (by decide +kernel) (by decide +kernel)
theorem u_iX4_fallSilent : Cond.instanceMethod yX4_fallSilent ∈ zU := zU_mem 957 (by decide +kernel) (by decide +kernel)
theorem u_vX4_fallSilent : Cond.selects RX4 yX4_fallSilent yX4_fallSilent ∈ zU := zU_mem 958 (by decide +kernel) (by decide +kernel)
theorem u_dX4_fallSilent : yX4_fallSilent.cls = RX4 ∧ yX4_fallSilent.cls ≠ "java/lang/invoke/MethodHandle" ∧ yX4_fallSilent.cls ≠ "java/lang/invoke/VarHandle" ∧ (parseMethodDescriptor yX4_fallSilent.desc).map (fun d => d.parameters.length) = some 1 := ⟨rfl, by decide +kernel, by decide +kernel, by decide +kernel⟩
theorem u_cX4_comeBack : Cond.code yX4_comeBack cX4_comeBack 3 (some .int) ∈ zU := zU_mem 967 (by decide +kernel) (by decide +kernel)
theorem u_iX4_comeBack : Cond.instanceMethod yX4_comeBack ∈ zU := zU_mem 965 (by decide +kernel) (by decide +kernel)
theorem u_vX4_comeBack : Cond.selects RX4 yX4_comeBack yX4_comeBack ∈ zU := zU_mem 966 (by decide +kernel) (by decide +kernel)
theorem u_dX4_comeBack : yX4_comeBack.cls = RX4 ∧ yX4_comeBack.cls ≠ "java/lang/invoke/MethodHandle" ∧ yX4_comeBack.cls ≠ "java/lang/invoke/VarHandle" ∧ (parseMethodDescriptor yX4_comeBack.desc).map (fun d => d.parameters.length) = some 1 := ⟨rfl, by decide +kernel, by decide +kernel, by decide +kernel⟩
theorem u_cX4_pass : Cond.code yX4_pass cX4_pass 2 (some .int) ∈ zU := zU_mem 975 (by decide +kernel) (by decide +kernel)
theorem u_iX4_pass : Cond.instanceMethod yX4_pass ∈ zU := zU_mem 973 (by decide +kernel) (by decide +kernel)
theorem u_vX4_pass : Cond.selects RX4 yX4_pass yX4_pass ∈ zU := zU_mem 974 (by decide +kernel) (by decide +kernel)
theorem u_dX4_pass : yX4_pass.cls = RX4 ∧ yX4_pass.cls ≠ "java/lang/invoke/MethodHandle" ∧ yX4_pass.cls ≠ "java/lang/invoke/VarHandle" ∧ (parseMethodDescriptor yX4_pass.desc).map (fun d => d.parameters.length) = some 1 := ⟨rfl, by decide +kernel, by decide +kernel, by decide +kernel⟩
theorem u_cX4_setPatience : Cond.code yX4_setPatience cX4_setPatience 3 (some .int) ∈ zU := zU_mem 995 (by decide +kernel) (by decide +kernel)
theorem u_iX4_setPatience : Cond.instanceMethod yX4_setPatience ∈ zU := zU_mem 993 (by decide +kernel) (by decide +kernel)
theorem u_vX4_setPatience : Cond.selects RX4 yX4_setPatience yX4_setPatience ∈ zU := zU_mem 994 (by decide +kernel) (by decide +kernel)
theorem u_dX4_setPatience : yX4_setPatience.cls = RX4 ∧ yX4_setPatience.cls ≠ "java/lang/invoke/MethodHandle" ∧ yX4_setPatience.cls ≠ "java/lang/invoke/VarHandle" ∧ (parseMethodDescriptor yX4_setPatience.desc).map (fun d => d.parameters.length) = some 1 := ⟨rfl, by decide +kernel, by decide +kernel, by decide +kernel⟩
theorem u_cX3_deals : Cond.code yX3_deals cX3_deals 1 (some .int) ∈ zU := zU_mem 165 (by decide +kernel) (by decide +kernel)
theorem u_iX3_deals : Cond.instanceMethod yX3_deals ∈ zU := zU_mem 163 (by decide +kernel) (by decide +kernel)
theorem u_vX3_deals : Cond.selects RX3 yX3_deals yX3_deals ∈ zU := zU_mem 164 (by decide +kernel) (by decide +kernel)
theorem u_dX3_deals : yX3_deals.cls = RX3 ∧ yX3_deals.cls ≠ "java/lang/invoke/MethodHandle" ∧ yX3_deals.cls ≠ "java/lang/invoke/VarHandle" ∧ (parseMethodDescriptor yX3_deals.desc).map (fun d => d.parameters.length) = some 0 := ⟨rfl, by decide +kernel, by decide +kernel, by decide +kernel⟩
theorem u_cX4_deals : Cond.code yX4_deals cX4_deals 1 (some .int) ∈ zU := zU_mem 999 (by decide +kernel) (by decide +kernel)
theorem u_iX4_deals : Cond.instanceMethod yX4_deals ∈ zU := zU_mem 997 (by decide +kernel) (by decide +kernel)
theorem u_vX4_deals : Cond.selects RX4 yX4_deals yX4_deals ∈ zU := zU_mem 998 (by decide +kernel) (by decide +kernel)
theorem u_dX4_deals : yX4_deals.cls = RX4 ∧ yX4_deals.cls ≠ "java/lang/invoke/MethodHandle" ∧ yX4_deals.cls ≠ "java/lang/invoke/VarHandle" ∧ (parseMethodDescriptor yX4_deals.desc).map (fun d => d.parameters.length) = some 0 := ⟨rfl, by decide +kernel, by decide +kernel, by decide +kernel⟩
theorem u_cX4_isUp : Cond.code yX4_isUp cX4_isUp 2 (some .boolean) ∈ zU := zU_mem 1003 (by decide +kernel) (by decide +kernel)
theorem u_iX4_isUp : Cond.instanceMethod yX4_isUp ∈ zU := zU_mem 1001 (by decide +kernel) (by decide +kernel)
theorem u_vX4_isUp : Cond.selects RX4 yX4_isUp yX4_isUp ∈ zU := zU_mem 1002 (by decide +kernel) (by decide +kernel)
theorem u_dX4_isUp : yX4_isUp.cls = RX4 ∧ yX4_isUp.cls ≠ "java/lang/invoke/MethodHandle" ∧ yX4_isUp.cls ≠ "java/lang/invoke/VarHandle" ∧ (parseMethodDescriptor yX4_isUp.desc).map (fun d => d.parameters.length) = some 1 := ⟨rfl, by decide +kernel, by decide +kernel, by decide +kernel⟩
theorem u_cX4_state : Cond.code yX4_state cX4_state 3 (some .int) ∈ zU := zU_mem 1007 (by decide +kernel) (by decide +kernel)
theorem u_iX4_state : Cond.instanceMethod yX4_state ∈ zU := zU_mem 1005 (by decide +kernel) (by decide +kernel)
theorem u_vX4_state : Cond.selects RX4 yX4_state yX4_state ∈ zU := zU_mem 1006 (by decide +kernel) (by decide +kernel)
theorem u_dX4_state : yX4_state.cls = RX4 ∧ yX4_state.cls ≠ "java/lang/invoke/MethodHandle" ∧ yX4_state.cls ≠ "java/lang/invoke/VarHandle" ∧ (parseMethodDescriptor yX4_state.desc).map (fun d => d.parameters.length) = some 2 := ⟨rfl, by decide +kernel, by decide +kernel, by decide +kernel⟩
theorem u_cX4_decision : Cond.code yX4_decision cX4_decision 2 (some .int) ∈ zU := zU_mem 1011 (by decide +kernel) (by decide +kernel)
theorem u_iX4_decision : Cond.instanceMethod yX4_decision ∈ zU := zU_mem 1009 (by decide +kernel) (by decide +kernel)
theorem u_vX4_decision : Cond.selects RX4 yX4_decision yX4_decision ∈ zU := zU_mem 1010 (by decide +kernel) (by decide +kernel)
theorem u_dX4_decision : yX4_decision.cls = RX4 ∧ yX4_decision.cls ≠ "java/lang/invoke/MethodHandle" ∧ yX4_decision.cls ≠ "java/lang/invoke/VarHandle" ∧ (parseMethodDescriptor yX4_decision.desc).map (fun d => d.parameters.length) = some 1 := ⟨rfl, by decide +kernel, by decide +kernel, by decide +kernel⟩
theorem u_cX4_leader : Cond.code yX4_leader cX4_leader 2 (some .int) ∈ zU := zU_mem 1015 (by decide +kernel) (by decide +kernel)
theorem u_iX4_leader : Cond.instanceMethod yX4_leader ∈ zU := zU_mem 1013 (by decide +kernel) (by decide +kernel)
theorem u_vX4_leader : Cond.selects RX4 yX4_leader yX4_leader ∈ zU := zU_mem 1014 (by decide +kernel) (by decide +kernel)
theorem u_dX4_leader : yX4_leader.cls = RX4 ∧ yX4_leader.cls ≠ "java/lang/invoke/MethodHandle" ∧ yX4_leader.cls ≠ "java/lang/invoke/VarHandle" ∧ (parseMethodDescriptor yX4_leader.desc).map (fun d => d.parameters.length) = some 1 := ⟨rfl, by decide +kernel, by decide +kernel, by decide +kernel⟩
theorem u_cX4_patience : Cond.code yX4_patience cX4_patience 3 (some .int) ∈ zU := zU_mem 1019 (by decide +kernel) (by decide +kernel)
theorem u_iX4_patience : Cond.instanceMethod yX4_patience ∈ zU := zU_mem 1017 (by decide +kernel) (by decide +kernel)
theorem u_vX4_patience : Cond.selects RX4 yX4_patience yX4_patience ∈ zU := zU_mem 1018 (by decide +kernel) (by decide +kernel)
theorem u_dX4_patience : yX4_patience.cls = RX4 ∧ yX4_patience.cls ≠ "java/lang/invoke/MethodHandle" ∧ yX4_patience.cls ≠ "java/lang/invoke/VarHandle" ∧ (parseMethodDescriptor yX4_patience.desc).map (fun d => d.parameters.length) = some 2 := ⟨rfl, by decide +kernel, by decide +kernel, by decide +kernel⟩
theorem u_cX3_open : Cond.code yX3_open cX3_open 1 (some .int) ∈ zU := zU_mem 173 (by decide +kernel) (by decide +kernel)
theorem u_iX3_open : Cond.instanceMethod yX3_open ∈ zU := zU_mem 171 (by decide +kernel) (by decide +kernel)
theorem u_vX3_open : Cond.selects RX3 yX3_open yX3_open ∈ zU := zU_mem 172 (by decide +kernel) (by decide +kernel)
theorem u_dX3_open : yX3_open.cls = RX3 ∧ yX3_open.cls ≠ "java/lang/invoke/MethodHandle" ∧ yX3_open.cls ≠ "java/lang/invoke/VarHandle" ∧ (parseMethodDescriptor yX3_open.desc).map (fun d => d.parameters.length) = some 0 := ⟨rfl, by decide +kernel, by decide +kernel, by decide +kernel⟩
theorem u_cX4_open : Cond.code yX4_open cX4_open 1 (some .int) ∈ zU := zU_mem 1027 (by decide +kernel) (by decide +kernel)
theorem u_iX4_open : Cond.instanceMethod yX4_open ∈ zU := zU_mem 1025 (by decide +kernel) (by decide +kernel)
theorem u_vX4_open : Cond.selects RX4 yX4_open yX4_open ∈ zU := zU_mem 1026 (by decide +kernel) (by decide +kernel)
theorem u_dX4_open : yX4_open.cls = RX4 ∧ yX4_open.cls ≠ "java/lang/invoke/MethodHandle" ∧ yX4_open.cls ≠ "java/lang/invoke/VarHandle" ∧ (parseMethodDescriptor yX4_open.desc).map (fun d => d.parameters.length) = some 0 := ⟨rfl, by decide +kernel, by decide +kernel, by decide +kernel⟩
theorem u_cX3_stuck : Cond.code yX3_stuck cX3_stuck 1 (some .int) ∈ zU := zU_mem 189 (by decide +kernel) (by decide +kernel)
theorem u_iX3_stuck : Cond.instanceMethod yX3_stuck ∈ zU := zU_mem 187 (by decide +kernel) (by decide +kernel)
theorem u_vX3_stuck : Cond.selects RX3 yX3_stuck yX3_stuck ∈ zU := zU_mem 188 (by decide +kernel) (by decide +kernel)
theorem u_dX3_stuck : yX3_stuck.cls = RX3 ∧ yX3_stuck.cls ≠ "java/lang/invoke/MethodHandle" ∧ yX3_stuck.cls ≠ "java/lang/invoke/VarHandle" ∧ (parseMethodDescriptor yX3_stuck.desc).map (fun d => d.parameters.length) = some 0 := ⟨rfl, by decide +kernel, by decide +kernel, by decide +kernel⟩
theorem u_cX4_stuck : Cond.code yX4_stuck cX4_stuck 1 (some .int) ∈ zU := zU_mem 1035 (by decide +kernel) (by decide +kernel)
theorem u_iX4_stuck : Cond.instanceMethod yX4_stuck ∈ zU := zU_mem 1033 (by decide +kernel) (by decide +kernel)
theorem u_vX4_stuck : Cond.selects RX4 yX4_stuck yX4_stuck ∈ zU := zU_mem 1034 (by decide +kernel) (by decide +kernel)
theorem u_dX4_stuck : yX4_stuck.cls = RX4 ∧ yX4_stuck.cls ≠ "java/lang/invoke/MethodHandle" ∧ yX4_stuck.cls ≠ "java/lang/invoke/VarHandle" ∧ (parseMethodDescriptor yX4_stuck.desc).map (fun d => d.parameters.length) = some 0 := ⟨rfl, by decide +kernel, by decide +kernel, by decide +kernel⟩
theorem u_cX4_logLength : Cond.code yX4_logLength cX4_logLength 2 (some .int) ∈ zU := zU_mem 1047 (by decide +kernel) (by decide +kernel)
theorem u_iX4_logLength : Cond.instanceMethod yX4_logLength ∈ zU := zU_mem 1045 (by decide +kernel) (by decide +kernel)
theorem u_vX4_logLength : Cond.selects RX4 yX4_logLength yX4_logLength ∈ zU := zU_mem 1046 (by decide +kernel) (by decide +kernel)
theorem u_dX4_logLength : yX4_logLength.cls = RX4 ∧ yX4_logLength.cls ≠ "java/lang/invoke/MethodHandle" ∧ yX4_logLength.cls ≠ "java/lang/invoke/VarHandle" ∧ (parseMethodDescriptor yX4_logLength.desc).map (fun d => d.parameters.length) = some 1 := ⟨rfl, by decide +kernel, by decide +kernel, by decide +kernel⟩
theorem u_cX4_log : Cond.code yX4_log cX4_log 3 (some .int) ∈ zU := zU_mem 1051 (by decide +kernel) (by decide +kernel)
theorem u_iX4_log : Cond.instanceMethod yX4_log ∈ zU := zU_mem 1049 (by decide +kernel) (by decide +kernel)
theorem u_vX4_log : Cond.selects RX4 yX4_log yX4_log ∈ zU := zU_mem 1050 (by decide +kernel) (by decide +kernel)
theorem u_dX4_log : yX4_log.cls = RX4 ∧ yX4_log.cls ≠ "java/lang/invoke/MethodHandle" ∧ yX4_log.cls ≠ "java/lang/invoke/VarHandle" ∧ (parseMethodDescriptor yX4_log.desc).map (fun d => d.parameters.length) = some 2 := ⟨rfl, by decide +kernel, by decide +kernel, by decide +kernel⟩
theorem u_cX4_held : Cond.code yX4_held cX4_held 2 (some .int) ∈ zU := zU_mem 1055 (by decide +kernel) (by decide +kernel)
theorem u_iX4_held : Cond.instanceMethod yX4_held ∈ zU := zU_mem 1053 (by decide +kernel) (by decide +kernel)
theorem u_vX4_held : Cond.selects RX4 yX4_held yX4_held ∈ zU := zU_mem 1054 (by decide +kernel) (by decide +kernel)
theorem u_dX4_held : yX4_held.cls = RX4 ∧ yX4_held.cls ≠ "java/lang/invoke/MethodHandle" ∧ yX4_held.cls ≠ "java/lang/invoke/VarHandle" ∧ (parseMethodDescriptor yX4_held.desc).map (fun d => d.parameters.length) = some 1 := ⟨rfl, by decide +kernel, by decide +kernel, by decide +kernel⟩
theorem u_cX3_asked : Cond.code yX3_asked cX3_asked 1 (some .int) ∈ zU := zU_mem 227 (by decide +kernel) (by decide +kernel)
theorem u_iX3_asked : Cond.instanceMethod yX3_asked ∈ zU := zU_mem 225 (by decide +kernel) (by decide +kernel)
theorem u_vX3_asked : Cond.selects RX3 yX3_asked yX3_asked ∈ zU := zU_mem 226 (by decide +kernel) (by decide +kernel)
theorem u_dX3_asked : yX3_asked.cls = RX3 ∧ yX3_asked.cls ≠ "java/lang/invoke/MethodHandle" ∧ yX3_asked.cls ≠ "java/lang/invoke/VarHandle" ∧ (parseMethodDescriptor yX3_asked.desc).map (fun d => d.parameters.length) = some 0 := ⟨rfl, by decide +kernel, by decide +kernel, by decide +kernel⟩
theorem u_cX4_asked : Cond.code yX4_asked cX4_asked 1 (some .int) ∈ zU := zU_mem 1059 (by decide +kernel) (by decide +kernel)
theorem u_iX4_asked : Cond.instanceMethod yX4_asked ∈ zU := zU_mem 1057 (by decide +kernel) (by decide +kernel)
theorem u_vX4_asked : Cond.selects RX4 yX4_asked yX4_asked ∈ zU := zU_mem 1058 (by decide +kernel) (by decide +kernel)
theorem u_dX4_asked : yX4_asked.cls = RX4 ∧ yX4_asked.cls ≠ "java/lang/invoke/MethodHandle" ∧ yX4_asked.cls ≠ "java/lang/invoke/VarHandle" ∧ (parseMethodDescriptor yX4_asked.desc).map (fun d => d.parameters.length) = some 0 := ⟨rfl, by decide +kernel, by decide +kernel, by decide +kernel⟩
theorem u_cX3_doubtShare : Cond.code yX3_doubtShare cX3_doubtShare 2 (some .double) ∈ zU := zU_mem 235 (by decide +kernel) (by decide +kernel)
theorem u_iX3_doubtShare : Cond.instanceMethod yX3_doubtShare ∈ zU := zU_mem 233 (by decide +kernel) (by decide +kernel)
theorem u_vX3_doubtShare : Cond.selects RX3 yX3_doubtShare yX3_doubtShare ∈ zU := zU_mem 234 (by decide +kernel) (by decide +kernel)
theorem u_dX3_doubtShare : yX3_doubtShare.cls = RX3 ∧ yX3_doubtShare.cls ≠ "java/lang/invoke/MethodHandle" ∧ yX3_doubtShare.cls ≠ "java/lang/invoke/VarHandle" ∧ (parseMethodDescriptor yX3_doubtShare.desc).map (fun d => d.parameters.length) = some 0 := ⟨rfl, by decide +kernel, by decide +kernel, by decide +kernel⟩
theorem u_cX4_doubtShare : Cond.code yX4_doubtShare cX4_doubtShare 4 (some .double) ∈ zU := zU_mem 1063 (by decide +kernel) (by decide +kernel)
theorem u_iX4_doubtShare : Cond.instanceMethod yX4_doubtShare ∈ zU := zU_mem 1061 (by decide +kernel) (by decide +kernel)
theorem u_vX4_doubtShare : Cond.selects RX4 yX4_doubtShare yX4_doubtShare ∈ zU := zU_mem 1062 (by decide +kernel) (by decide +kernel)
theorem u_dX4_doubtShare : yX4_doubtShare.cls = RX4 ∧ yX4_doubtShare.cls ≠ "java/lang/invoke/MethodHandle" ∧ yX4_doubtShare.cls ≠ "java/lang/invoke/VarHandle" ∧ (parseMethodDescriptor yX4_doubtShare.desc).map (fun d => d.parameters.length) = some 0 := ⟨rfl, by decide +kernel, by decide +kernel, by decide +kernel⟩
theorem u_cX4_reason : Cond.code yX4_reason cX4_reason 3 (some .int) ∈ zU := zU_mem 1067 (by decide +kernel) (by decide +kernel)
theorem u_iX4_reason : Cond.instanceMethod yX4_reason ∈ zU := zU_mem 1065 (by decide +kernel) (by decide +kernel)
theorem u_vX4_reason : Cond.selects RX4 yX4_reason yX4_reason ∈ zU := zU_mem 1066 (by decide +kernel) (by decide +kernel)
theorem u_dX4_reason : yX4_reason.cls = RX4 ∧ yX4_reason.cls ≠ "java/lang/invoke/MethodHandle" ∧ yX4_reason.cls ≠ "java/lang/invoke/VarHandle" ∧ (parseMethodDescriptor yX4_reason.desc).map (fun d => d.parameters.length) = some 2 := ⟨rfl, by decide +kernel, by decide +kernel, by decide +kernel⟩
theorem u_cX4_helper : Cond.code yX4_helper cX4_helper 3 (some .int) ∈ zU := zU_mem 1071 (by decide +kernel) (by decide +kernel)
theorem u_iX4_helper : Cond.instanceMethod yX4_helper ∈ zU := zU_mem 1069 (by decide +kernel) (by decide +kernel)
theorem u_vX4_helper : Cond.selects RX4 yX4_helper yX4_helper ∈ zU := zU_mem 1070 (by decide +kernel) (by decide +kernel)
theorem u_dX4_helper : yX4_helper.cls = RX4 ∧ yX4_helper.cls ≠ "java/lang/invoke/MethodHandle" ∧ yX4_helper.cls ≠ "java/lang/invoke/VarHandle" ∧ (parseMethodDescriptor yX4_helper.desc).map (fun d => d.parameters.length) = some 2 := ⟨rfl, by decide +kernel, by decide +kernel, by decide +kernel⟩
theorem u_cX4_ticksToEnd : Cond.code yX4_ticksToEnd cX4_ticksToEnd 4 (some .int) ∈ zU := zU_mem 1075 (by decide +kernel) (by decide +kernel)
theorem u_iX4_ticksToEnd : Cond.instanceMethod yX4_ticksToEnd ∈ zU := zU_mem 1073 (by decide +kernel) (by decide +kernel)
theorem u_vX4_ticksToEnd : Cond.selects RX4 yX4_ticksToEnd yX4_ticksToEnd ∈ zU := zU_mem 1074 (by decide +kernel) (by decide +kernel)
theorem u_dX4_ticksToEnd : yX4_ticksToEnd.cls = RX4 ∧ yX4_ticksToEnd.cls ≠ "java/lang/invoke/MethodHandle" ∧ yX4_ticksToEnd.cls ≠ "java/lang/invoke/VarHandle" ∧ (parseMethodDescriptor yX4_ticksToEnd.desc).map (fun d => d.parameters.length) = some 2 := ⟨rfl, by decide +kernel, by decide +kernel, by decide +kernel⟩
theorem u_cX4_append : Cond.code yX4_append cX4_append 2 (some .int) ∈ zU := zU_mem 1079 (by decide +kernel) (by decide +kernel)
theorem u_iX4_append : Cond.instanceMethod yX4_append ∈ zU := zU_mem 1077 (by decide +kernel) (by decide +kernel)
theorem u_vX4_append : Cond.selects RX4 yX4_append yX4_append ∈ zU := zU_mem 1078 (by decide +kernel) (by decide +kernel)
theorem u_dX4_append : yX4_append.cls = RX4 ∧ yX4_append.cls ≠ "java/lang/invoke/MethodHandle" ∧ yX4_append.cls ≠ "java/lang/invoke/VarHandle" ∧ (parseMethodDescriptor yX4_append.desc).map (fun d => d.parameters.length) = some 1 := ⟨rfl, by decide +kernel, by decide +kernel, by decide +kernel⟩
theorem u_cX3_clearText : Cond.code yX3_clearText cX3_clearText 1 (some .int) ∈ zU := zU_mem 248 (by decide +kernel) (by decide +kernel)
theorem u_iX3_clearText : Cond.instanceMethod yX3_clearText ∈ zU := zU_mem 246 (by decide +kernel) (by decide +kernel)
theorem u_vX3_clearText : Cond.selects RX3 yX3_clearText yX3_clearText ∈ zU := zU_mem 247 (by decide +kernel) (by decide +kernel)
theorem u_dX3_clearText : yX3_clearText.cls = RX3 ∧ yX3_clearText.cls ≠ "java/lang/invoke/MethodHandle" ∧ yX3_clearText.cls ≠ "java/lang/invoke/VarHandle" ∧ (parseMethodDescriptor yX3_clearText.desc).map (fun d => d.parameters.length) = some 0 := ⟨rfl, by decide +kernel, by decide +kernel, by decide +kernel⟩
theorem u_cX4_clearText : Cond.code yX4_clearText cX4_clearText 2 (some .int) ∈ zU := zU_mem 1083 (by decide +kernel) (by decide +kernel)
theorem u_iX4_clearText : Cond.instanceMethod yX4_clearText ∈ zU := zU_mem 1081 (by decide +kernel) (by decide +kernel)
theorem u_vX4_clearText : Cond.selects RX4 yX4_clearText yX4_clearText ∈ zU := zU_mem 1082 (by decide +kernel) (by decide +kernel)
theorem u_dX4_clearText : yX4_clearText.cls = RX4 ∧ yX4_clearText.cls ≠ "java/lang/invoke/MethodHandle" ∧ yX4_clearText.cls ≠ "java/lang/invoke/VarHandle" ∧ (parseMethodDescriptor yX4_clearText.desc).map (fun d => d.parameters.length) = some 0 := ⟨rfl, by decide +kernel, by decide +kernel, by decide +kernel⟩
theorem u_cX3_firstError : Cond.code yX3_firstError cX3_firstError 1 (some .int) ∈ zU := zU_mem 256 (by decide +kernel) (by decide +kernel)
theorem u_iX3_firstError : Cond.instanceMethod yX3_firstError ∈ zU := zU_mem 254 (by decide +kernel) (by decide +kernel)
theorem u_vX3_firstError : Cond.selects RX3 yX3_firstError yX3_firstError ∈ zU := zU_mem 255 (by decide +kernel) (by decide +kernel)
theorem u_dX3_firstError : yX3_firstError.cls = RX3 ∧ yX3_firstError.cls ≠ "java/lang/invoke/MethodHandle" ∧ yX3_firstError.cls ≠ "java/lang/invoke/VarHandle" ∧ (parseMethodDescriptor yX3_firstError.desc).map (fun d => d.parameters.length) = some 0 := ⟨rfl, by decide +kernel, by decide +kernel, by decide +kernel⟩
theorem u_cX4_firstError : Cond.code yX4_firstError cX4_firstError 1 (some .int) ∈ zU := zU_mem 1087 (by decide +kernel) (by decide +kernel)
theorem u_iX4_firstError : Cond.instanceMethod yX4_firstError ∈ zU := zU_mem 1085 (by decide +kernel) (by decide +kernel)
theorem u_vX4_firstError : Cond.selects RX4 yX4_firstError yX4_firstError ∈ zU := zU_mem 1086 (by decide +kernel) (by decide +kernel)
theorem u_dX4_firstError : yX4_firstError.cls = RX4 ∧ yX4_firstError.cls ≠ "java/lang/invoke/MethodHandle" ∧ yX4_firstError.cls ≠ "java/lang/invoke/VarHandle" ∧ (parseMethodDescriptor yX4_firstError.desc).map (fun d => d.parameters.length) = some 0 := ⟨rfl, by decide +kernel, by decide +kernel, by decide +kernel⟩
theorem u_cX4_run : Cond.code yX4_run cX4_run 2 (some .int) ∈ zU := zU_mem 1115 (by decide +kernel) (by decide +kernel)
theorem u_iX4_run : Cond.instanceMethod yX4_run ∈ zU := zU_mem 1113 (by decide +kernel) (by decide +kernel)
theorem u_vX4_run : Cond.selects RX4 yX4_run yX4_run ∈ zU := zU_mem 1114 (by decide +kernel) (by decide +kernel)
theorem u_dX4_run : yX4_run.cls = RX4 ∧ yX4_run.cls ≠ "java/lang/invoke/MethodHandle" ∧ yX4_run.cls ≠ "java/lang/invoke/VarHandle" ∧ (parseMethodDescriptor yX4_run.desc).map (fun d => d.parameters.length) = some 0 := ⟨rfl, by decide +kernel, by decide +kernel, by decide +kernel⟩
theorem u_cX4_undo : Cond.code yX4_undo cX4_undo 1 (some .int) ∈ zU := zU_mem 1127 (by decide +kernel) (by decide +kernel)
theorem u_iX4_undo : Cond.instanceMethod yX4_undo ∈ zU := zU_mem 1125 (by decide +kernel) (by decide +kernel)
theorem u_vX4_undo : Cond.selects RX4 yX4_undo yX4_undo ∈ zU := zU_mem 1126 (by decide +kernel) (by decide +kernel)
theorem u_dX4_undo : yX4_undo.cls = RX4 ∧ yX4_undo.cls ≠ "java/lang/invoke/MethodHandle" ∧ yX4_undo.cls ≠ "java/lang/invoke/VarHandle" ∧ (parseMethodDescriptor yX4_undo.desc).map (fun d => d.parameters.length) = some 0 := ⟨rfl, by decide +kernel, by decide +kernel, by decide +kernel⟩
theorem u_cX3_savedStates : Cond.code yX3_savedStates cX3_savedStates 1 (some .int) ∈ zU := zU_mem 283 (by decide +kernel) (by decide +kernel)
theorem u_iX3_savedStates : Cond.instanceMethod yX3_savedStates ∈ zU := zU_mem 281 (by decide +kernel) (by decide +kernel)
theorem u_vX3_savedStates : Cond.selects RX3 yX3_savedStates yX3_savedStates ∈ zU := zU_mem 282 (by decide +kernel) (by decide +kernel)
theorem u_dX3_savedStates : yX3_savedStates.cls = RX3 ∧ yX3_savedStates.cls ≠ "java/lang/invoke/MethodHandle" ∧ yX3_savedStates.cls ≠ "java/lang/invoke/VarHandle" ∧ (parseMethodDescriptor yX3_savedStates.desc).map (fun d => d.parameters.length) = some 0 := ⟨rfl, by decide +kernel, by decide +kernel, by decide +kernel⟩
theorem u_cX4_savedStates : Cond.code yX4_savedStates cX4_savedStates 1 (some .int) ∈ zU := zU_mem 1131 (by decide +kernel) (by decide +kernel)
theorem u_iX4_savedStates : Cond.instanceMethod yX4_savedStates ∈ zU := zU_mem 1129 (by decide +kernel) (by decide +kernel)
theorem u_vX4_savedStates : Cond.selects RX4 yX4_savedStates yX4_savedStates ∈ zU := zU_mem 1130 (by decide +kernel) (by decide +kernel)
theorem u_dX4_savedStates : yX4_savedStates.cls = RX4 ∧ yX4_savedStates.cls ≠ "java/lang/invoke/MethodHandle" ∧ yX4_savedStates.cls ≠ "java/lang/invoke/VarHandle" ∧ (parseMethodDescriptor yX4_savedStates.desc).map (fun d => d.parameters.length) = some 0 := ⟨rfl, by decide +kernel, by decide +kernel, by decide +kernel⟩
theorem u_cX3_digest : Cond.code yX3_digest cX3_digest 1 (some .long) ∈ zU := zU_mem 291 (by decide +kernel) (by decide +kernel)
theorem u_iX3_digest : Cond.instanceMethod yX3_digest ∈ zU := zU_mem 289 (by decide +kernel) (by decide +kernel)
theorem u_vX3_digest : Cond.selects RX3 yX3_digest yX3_digest ∈ zU := zU_mem 290 (by decide +kernel) (by decide +kernel)
theorem u_dX3_digest : yX3_digest.cls = RX3 ∧ yX3_digest.cls ≠ "java/lang/invoke/MethodHandle" ∧ yX3_digest.cls ≠ "java/lang/invoke/VarHandle" ∧ (parseMethodDescriptor yX3_digest.desc).map (fun d => d.parameters.length) = some 0 := ⟨rfl, by decide +kernel, by decide +kernel, by decide +kernel⟩
theorem u_cX4_digest : Cond.code yX4_digest cX4_digest 3 (some .long) ∈ zU := zU_mem 1135 (by decide +kernel) (by decide +kernel)
theorem u_iX4_digest : Cond.instanceMethod yX4_digest ∈ zU := zU_mem 1133 (by decide +kernel) (by decide +kernel)
theorem u_vX4_digest : Cond.selects RX4 yX4_digest yX4_digest ∈ zU := zU_mem 1134 (by decide +kernel) (by decide +kernel)
theorem u_dX4_digest : yX4_digest.cls = RX4 ∧ yX4_digest.cls ≠ "java/lang/invoke/MethodHandle" ∧ yX4_digest.cls ≠ "java/lang/invoke/VarHandle" ∧ (parseMethodDescriptor yX4_digest.desc).map (fun d => d.parameters.length) = some 0 := ⟨rfl, by decide +kernel, by decide +kernel, by decide +kernel⟩
theorem u_cX4_in : Cond.code yX4_in cX4_in 3 (some .boolean) ∈ zU := zU_mem 845 (by decide +kernel) (by decide +kernel)
theorem u_sX4_in : Cond.static yX4_in ∈ zU := zU_mem 844 (by decide +kernel) (by decide +kernel)
theorem u_dX4_in : yX4_in.cls = RX4 ∧ yX4_in.cls ≠ "java/lang/invoke/MethodHandle" ∧ yX4_in.cls ≠ "java/lang/invoke/VarHandle" ∧ (parseMethodDescriptor yX4_in.desc).map (fun d => d.parameters.length) = some 3 := ⟨rfl, by decide +kernel, by decide +kernel, by decide +kernel⟩
theorem kX4_20 : zLkS RX4 20 yX4_in cX4_in 3 (some .boolean) 3 := zLkS_of (zU_mem 843 (by decide +kernel) (by decide +kernel)) u_sX4_in u_iniX4 u_cX4_in u_dX4_in
theorem u_cX4_of : Cond.code yX4_of cX4_of 4 (some .int) ∈ zU := zU_mem 891 (by decide +kernel) (by decide +kernel)
theorem u_iX4_of : Cond.instanceMethod yX4_of ∈ zU := zU_mem 890 (by decide +kernel) (by decide +kernel)
theorem u_vX4_of : Cond.selects RX4 yX4_of yX4_of ∈ zU := zU_mem 23 (by decide +kernel) (by decide +kernel)
theorem u_dX4_of : yX4_of.cls = RX4 ∧ yX4_of.cls ≠ "java/lang/invoke/MethodHandle" ∧ yX4_of.cls ≠ "java/lang/invoke/VarHandle" ∧ (parseMethodDescriptor yX4_of.desc).map (fun d => d.parameters.length) = some 3 := ⟨rfl, by decide +kernel, by decide +kernel, by decide +kernel⟩
theorem kX4_24 : zLkV RX4 24 RX4 yX4_of cX4_of 4 (some .int) 3 := zLkV_of (zU_mem 888 (by decide +kernel) (by decide +kernel)) u_iX4_of u_vX4_of u_iniX4 u_cX4_of u_dX4_of
theorem u_cX4_isMember : Cond.code yX4_isMember cX4_isMember 4 (some .boolean) ∈ zU := zU_mem 887 (by decide +kernel) (by decide +kernel)
theorem u_iX4_isMember : Cond.instanceMethod yX4_isMember ∈ zU := zU_mem 886 (by decide +kernel) (by decide +kernel)
theorem u_vX4_isMember : Cond.selects RX4 yX4_isMember yX4_isMember ∈ zU := zU_mem 22 (by decide +kernel) (by decide +kernel)
theorem u_dX4_isMember : yX4_isMember.cls = RX4 ∧ yX4_isMember.cls ≠ "java/lang/invoke/MethodHandle" ∧ yX4_isMember.cls ≠ "java/lang/invoke/VarHandle" ∧ (parseMethodDescriptor yX4_isMember.desc).map (fun d => d.parameters.length) = some 3 := ⟨rfl, by decide +kernel, by decide +kernel, by decide +kernel⟩
theorem kX4_28 : zLkV RX4 28 RX4 yX4_isMember cX4_isMember 4 (some .boolean) 3 := zLkV_of (zU_mem 884 (by decide +kernel) (by decide +kernel)) u_iX4_isMember u_vX4_isMember u_iniX4 u_cX4_isMember u_dX4_isMember
theorem u_cX4_logs : Cond.code yX4_logs cX4_logs 5 none ∈ zU := zU_mem 911 (by decide +kernel) (by decide +kernel)
theorem u_iX4_logs : Cond.instanceMethod yX4_logs ∈ zU := zU_mem 910 (by decide +kernel) (by decide +kernel)
theorem u_vX4_logs : Cond.selects RX4 yX4_logs yX4_logs ∈ zU := zU_mem 28 (by decide +kernel) (by decide +kernel)
theorem u_dX4_logs : yX4_logs.cls = RX4 ∧ yX4_logs.cls ≠ "java/lang/invoke/MethodHandle" ∧ yX4_logs.cls ≠ "java/lang/invoke/VarHandle" ∧ (parseMethodDescriptor yX4_logs.desc).map (fun d => d.parameters.length) = some 3 := ⟨rfl, by decide +kernel, by decide +kernel, by decide +kernel⟩
theorem kX4_31 : zLkV RX4 31 RX4 yX4_logs cX4_logs 5 none 3 := zLkV_of (zU_mem 908 (by decide +kernel) (by decide +kernel)) u_iX4_logs u_vX4_logs u_iniX4 u_cX4_logs u_dX4_logs
theorem u_cX4_stateOf : Cond.code yX4_stateOf cX4_stateOf 4 (some .int) ∈ zU := zU_mem 883 (by decide +kernel) (by decide +kernel)
theorem u_iX4_stateOf : Cond.instanceMethod yX4_stateOf ∈ zU := zU_mem 882 (by decide +kernel) (by decide +kernel)
theorem u_vX4_stateOf : Cond.selects RX4 yX4_stateOf yX4_stateOf ∈ zU := zU_mem 21 (by decide +kernel) (by decide +kernel)
theorem u_dX4_stateOf : yX4_stateOf.cls = RX4 ∧ yX4_stateOf.cls ≠ "java/lang/invoke/MethodHandle" ∧ yX4_stateOf.cls ≠ "java/lang/invoke/VarHandle" ∧ (parseMethodDescriptor yX4_stateOf.desc).map (fun d => d.parameters.length) = some 3 := ⟨rfl, by decide +kernel, by decide +kernel, by decide +kernel⟩
theorem kX4_35 : zLkV RX4 35 RX4 yX4_stateOf cX4_stateOf 4 (some .int) 3 := zLkV_of (zU_mem 880 (by decide +kernel) (by decide +kernel)) u_iX4_stateOf u_vX4_stateOf u_iniX4 u_cX4_stateOf u_dX4_stateOf
theorem u_cX4_heldBy : Cond.code yX4_heldBy cX4_heldBy 5 (some .int) ∈ zU := zU_mem 903 (by decide +kernel) (by decide +kernel)
theorem u_iX4_heldBy : Cond.instanceMethod yX4_heldBy ∈ zU := zU_mem 902 (by decide +kernel) (by decide +kernel)
theorem u_vX4_heldBy : Cond.selects RX4 yX4_heldBy yX4_heldBy ∈ zU := zU_mem 26 (by decide +kernel) (by decide +kernel)
theorem u_dX4_heldBy : yX4_heldBy.cls = RX4 ∧ yX4_heldBy.cls ≠ "java/lang/invoke/MethodHandle" ∧ yX4_heldBy.cls ≠ "java/lang/invoke/VarHandle" ∧ (parseMethodDescriptor yX4_heldBy.desc).map (fun d => d.parameters.length) = some 2 := ⟨rfl, by decide +kernel, by decide +kernel, by decide +kernel⟩
theorem kX4_38 : zLkV RX4 38 RX4 yX4_heldBy cX4_heldBy 5 (some .int) 2 := zLkV_of (zU_mem 900 (by decide +kernel) (by decide +kernel)) u_iX4_heldBy u_vX4_heldBy u_iniX4 u_cX4_heldBy u_dX4_heldBy
theorem u_cX4_isHeld : Cond.code yX4_isHeld cX4_isHeld 4 (some .boolean) ∈ zU := zU_mem 899 (by decide +kernel) (by decide +kernel)
theorem u_iX4_isHeld : Cond.instanceMethod yX4_isHeld ∈ zU := zU_mem 898 (by decide +kernel) (by decide +kernel)
theorem u_vX4_isHeld : Cond.selects RX4 yX4_isHeld yX4_isHeld ∈ zU := zU_mem 25 (by decide +kernel) (by decide +kernel)
theorem u_dX4_isHeld : yX4_isHeld.cls = RX4 ∧ yX4_isHeld.cls ≠ "java/lang/invoke/MethodHandle" ∧ yX4_isHeld.cls ≠ "java/lang/invoke/VarHandle" ∧ (parseMethodDescriptor yX4_isHeld.desc).map (fun d => d.parameters.length) = some 3 := ⟨rfl, by decide +kernel, by decide +kernel, by decide +kernel⟩
theorem kX4_42 : zLkV RX4 42 RX4 yX4_isHeld cX4_isHeld 4 (some .boolean) 3 := zLkV_of (zU_mem 896 (by decide +kernel) (by decide +kernel)) u_iX4_isHeld u_vX4_isHeld u_iniX4 u_cX4_isHeld u_dX4_isHeld
theorem u_cX4_gets : Cond.code yX4_gets cX4_gets 5 none ∈ zU := zU_mem 907 (by decide +kernel) (by decide +kernel)
theorem u_iX4_gets : Cond.instanceMethod yX4_gets ∈ zU := zU_mem 906 (by decide +kernel) (by decide +kernel)
theorem u_vX4_gets : Cond.selects RX4 yX4_gets yX4_gets ∈ zU := zU_mem 27 (by decide +kernel) (by decide +kernel)
theorem u_dX4_gets : yX4_gets.cls = RX4 ∧ yX4_gets.cls ≠ "java/lang/invoke/MethodHandle" ∧ yX4_gets.cls ≠ "java/lang/invoke/VarHandle" ∧ (parseMethodDescriptor yX4_gets.desc).map (fun d => d.parameters.length) = some 4 := ⟨rfl, by decide +kernel, by decide +kernel, by decide +kernel⟩
theorem kX4_45 : zLkV RX4 45 RX4 yX4_gets cX4_gets 5 none 4 := zLkV_of (zU_mem 904 (by decide +kernel) (by decide +kernel)) u_iX4_gets u_vX4_gets u_iniX4 u_cX4_gets u_dX4_gets
theorem u_cX4_decides : Cond.code yX4_decides cX4_decides 4 none ∈ zU := zU_mem 927 (by decide +kernel) (by decide +kernel)
theorem u_iX4_decides : Cond.instanceMethod yX4_decides ∈ zU := zU_mem 926 (by decide +kernel) (by decide +kernel)
theorem u_vX4_decides : Cond.selects RX4 yX4_decides yX4_decides ∈ zU := zU_mem 31 (by decide +kernel) (by decide +kernel)
theorem u_dX4_decides : yX4_decides.cls = RX4 ∧ yX4_decides.cls ≠ "java/lang/invoke/MethodHandle" ∧ yX4_decides.cls ≠ "java/lang/invoke/VarHandle" ∧ (parseMethodDescriptor yX4_decides.desc).map (fun d => d.parameters.length) = some 3 := ⟨rfl, by decide +kernel, by decide +kernel, by decide +kernel⟩
theorem kX4_49 : zLkV RX4 49 RX4 yX4_decides cX4_decides 4 none 3 := zLkV_of (zU_mem 924 (by decide +kernel) (by decide +kernel)) u_iX4_decides u_vX4_decides u_iniX4 u_cX4_decides u_dX4_decides
theorem u_cX4_tells : Cond.code yX4_tells cX4_tells 6 none ∈ zU := zU_mem 939 (by decide +kernel) (by decide +kernel)
theorem u_iX4_tells : Cond.instanceMethod yX4_tells ∈ zU := zU_mem 938 (by decide +kernel) (by decide +kernel)
theorem u_vX4_tells : Cond.selects RX4 yX4_tells yX4_tells ∈ zU := zU_mem 33 (by decide +kernel) (by decide +kernel)
theorem u_dX4_tells : yX4_tells.cls = RX4 ∧ yX4_tells.cls ≠ "java/lang/invoke/MethodHandle" ∧ yX4_tells.cls ≠ "java/lang/invoke/VarHandle" ∧ (parseMethodDescriptor yX4_tells.desc).map (fun d => d.parameters.length) = some 3 := ⟨rfl, by decide +kernel, by decide +kernel, by decide +kernel⟩
theorem kX4_52 : zLkV RX4 52 RX4 yX4_tells cX4_tells 6 none 3 := zLkV_of (zU_mem 936 (by decide +kernel) (by decide +kernel)) u_iX4_tells u_vX4_tells u_iniX4 u_cX4_tells u_dX4_tells
theorem u_cX4_helps : Cond.code yX4_helps cX4_helps 4 (some .boolean) ∈ zU := zU_mem 955 (by decide +kernel) (by decide +kernel)
theorem u_iX4_helps : Cond.instanceMethod yX4_helps ∈ zU := zU_mem 954 (by decide +kernel) (by decide +kernel)
theorem u_vX4_helps : Cond.selects RX4 yX4_helps yX4_helps ∈ zU := zU_mem 36 (by decide +kernel) (by decide +kernel)
theorem u_dX4_helps : yX4_helps.cls = RX4 ∧ yX4_helps.cls ≠ "java/lang/invoke/MethodHandle" ∧ yX4_helps.cls ≠ "java/lang/invoke/VarHandle" ∧ (parseMethodDescriptor yX4_helps.desc).map (fun d => d.parameters.length) = some 3 := ⟨rfl, by decide +kernel, by decide +kernel, by decide +kernel⟩
theorem kX4_55 : zLkV RX4 55 RX4 yX4_helps cX4_helps 4 (some .boolean) 3 := zLkV_of (zU_mem 952 (by decide +kernel) (by decide +kernel)) u_iX4_helps u_vX4_helps u_iniX4 u_cX4_helps u_dX4_helps
theorem u_cX4_isUpNow : Cond.code yX4_isUpNow cX4_isUpNow 3 (some .boolean) ∈ zU := zU_mem 879 (by decide +kernel) (by decide +kernel)
theorem u_iX4_isUpNow : Cond.instanceMethod yX4_isUpNow ∈ zU := zU_mem 878 (by decide +kernel) (by decide +kernel)
theorem u_vX4_isUpNow : Cond.selects RX4 yX4_isUpNow yX4_isUpNow ∈ zU := zU_mem 20 (by decide +kernel) (by decide +kernel)
theorem u_dX4_isUpNow : yX4_isUpNow.cls = RX4 ∧ yX4_isUpNow.cls ≠ "java/lang/invoke/MethodHandle" ∧ yX4_isUpNow.cls ≠ "java/lang/invoke/VarHandle" ∧ (parseMethodDescriptor yX4_isUpNow.desc).map (fun d => d.parameters.length) = some 2 := ⟨rfl, by decide +kernel, by decide +kernel, by decide +kernel⟩
theorem kX4_58 : zLkV RX4 58 RX4 yX4_isUpNow cX4_isUpNow 3 (some .boolean) 2 := zLkV_of (zU_mem 876 (by decide +kernel) (by decide +kernel)) u_iX4_isUpNow u_vX4_isUpNow u_iniX4 u_cX4_isUpNow u_dX4_isUpNow
theorem u_cX4_asks : Cond.code yX4_asks cX4_asks 5 none ∈ zU := zU_mem 951 (by decide +kernel) (by decide +kernel)
theorem u_iX4_asks : Cond.instanceMethod yX4_asks ∈ zU := zU_mem 950 (by decide +kernel) (by decide +kernel)
theorem u_vX4_asks : Cond.selects RX4 yX4_asks yX4_asks ∈ zU := zU_mem 35 (by decide +kernel) (by decide +kernel)
theorem u_dX4_asks : yX4_asks.cls = RX4 ∧ yX4_asks.cls ≠ "java/lang/invoke/MethodHandle" ∧ yX4_asks.cls ≠ "java/lang/invoke/VarHandle" ∧ (parseMethodDescriptor yX4_asks.desc).map (fun d => d.parameters.length) = some 4 := ⟨rfl, by decide +kernel, by decide +kernel, by decide +kernel⟩
theorem kX4_62 : zLkV RX4 62 RX4 yX4_asks cX4_asks 5 none 4 := zLkV_of (zU_mem 948 (by decide +kernel) (by decide +kernel)) u_iX4_asks u_vX4_asks u_iniX4 u_cX4_asks u_dX4_asks
theorem u_cX4_asksAll : Cond.code yX4_asksAll cX4_asksAll 5 none ∈ zU := zU_mem 991 (by decide +kernel) (by decide +kernel)
theorem u_iX4_asksAll : Cond.instanceMethod yX4_asksAll ∈ zU := zU_mem 990 (by decide +kernel) (by decide +kernel)
theorem u_vX4_asksAll : Cond.selects RX4 yX4_asksAll yX4_asksAll ∈ zU := zU_mem 42 (by decide +kernel) (by decide +kernel)
theorem u_dX4_asksAll : yX4_asksAll.cls = RX4 ∧ yX4_asksAll.cls ≠ "java/lang/invoke/MethodHandle" ∧ yX4_asksAll.cls ≠ "java/lang/invoke/VarHandle" ∧ (parseMethodDescriptor yX4_asksAll.desc).map (fun d => d.parameters.length) = some 3 := ⟨rfl, by decide +kernel, by decide +kernel, by decide +kernel⟩
theorem kX4_65 : zLkV RX4 65 RX4 yX4_asksAll cX4_asksAll 5 none 3 := zLkV_of (zU_mem 988 (by decide +kernel) (by decide +kernel)) u_iX4_asksAll u_vX4_asksAll u_iniX4 u_cX4_asksAll u_dX4_asksAll
theorem u_cX4_ended : Cond.code yX4_ended cX4_ended 4 (some .int) ∈ zU := zU_mem 983 (by decide +kernel) (by decide +kernel)
theorem u_iX4_ended : Cond.instanceMethod yX4_ended ∈ zU := zU_mem 982 (by decide +kernel) (by decide +kernel)
theorem u_vX4_ended : Cond.selects RX4 yX4_ended yX4_ended ∈ zU := zU_mem 40 (by decide +kernel) (by decide +kernel)
theorem u_dX4_ended : yX4_ended.cls = RX4 ∧ yX4_ended.cls ≠ "java/lang/invoke/MethodHandle" ∧ yX4_ended.cls ≠ "java/lang/invoke/VarHandle" ∧ (parseMethodDescriptor yX4_ended.desc).map (fun d => d.parameters.length) = some 1 := ⟨rfl, by decide +kernel, by decide +kernel, by decide +kernel⟩
theorem kX4_68 : zLkV RX4 68 RX4 yX4_ended cX4_ended 4 (some .int) 1 := zLkV_of (zU_mem 980 (by decide +kernel) (by decide +kernel)) u_iX4_ended u_vX4_ended u_iniX4 u_cX4_ended u_dX4_ended
theorem u_cX4_ticks : Cond.code yX4_ticks cX4_ticks 5 none ∈ zU := zU_mem 987 (by decide +kernel) (by decide +kernel)
theorem u_iX4_ticks : Cond.instanceMethod yX4_ticks ∈ zU := zU_mem 986 (by decide +kernel) (by decide +kernel)
theorem u_vX4_ticks : Cond.selects RX4 yX4_ticks yX4_ticks ∈ zU := zU_mem 41 (by decide +kernel) (by decide +kernel)
theorem u_dX4_ticks : yX4_ticks.cls = RX4 ∧ yX4_ticks.cls ≠ "java/lang/invoke/MethodHandle" ∧ yX4_ticks.cls ≠ "java/lang/invoke/VarHandle" ∧ (parseMethodDescriptor yX4_ticks.desc).map (fun d => d.parameters.length) = some 1 := ⟨rfl, by decide +kernel, by decide +kernel, by decide +kernel⟩
theorem kX4_72 : zLkV RX4 72 RX4 yX4_ticks cX4_ticks 5 none 1 := zLkV_of (zU_mem 984 (by decide +kernel) (by decide +kernel)) u_iX4_ticks u_vX4_ticks u_iniX4 u_cX4_ticks u_dX4_ticks
theorem u_cX4_copies : Cond.code yX4_copies cX4_copies 4 none ∈ zU := zU_mem 863 (by decide +kernel) (by decide +kernel)
theorem u_iX4_copies : Cond.instanceMethod yX4_copies ∈ zU := zU_mem 862 (by decide +kernel) (by decide +kernel)
theorem u_vX4_copies : Cond.selects RX4 yX4_copies yX4_copies ∈ zU := zU_mem 17 (by decide +kernel) (by decide +kernel)
theorem u_dX4_copies : yX4_copies.cls = RX4 ∧ yX4_copies.cls ≠ "java/lang/invoke/MethodHandle" ∧ yX4_copies.cls ≠ "java/lang/invoke/VarHandle" ∧ (parseMethodDescriptor yX4_copies.desc).map (fun d => d.parameters.length) = some 2 := ⟨rfl, by decide +kernel, by decide +kernel, by decide +kernel⟩
theorem kX4_79 : zLkV RX4 79 RX4 yX4_copies cX4_copies 4 none 2 := zLkV_of (zU_mem 860 (by decide +kernel) (by decide +kernel)) u_iX4_copies u_vX4_copies u_iniX4 u_cX4_copies u_dX4_copies
theorem u_cX4_bits : Cond.code yX4_bits cX4_bits 3 (some .int) ∈ zU := zU_mem 848 (by decide +kernel) (by decide +kernel)
theorem u_sX4_bits : Cond.static yX4_bits ∈ zU := zU_mem 847 (by decide +kernel) (by decide +kernel)
theorem u_dX4_bits : yX4_bits.cls = RX4 ∧ yX4_bits.cls ≠ "java/lang/invoke/MethodHandle" ∧ yX4_bits.cls ≠ "java/lang/invoke/VarHandle" ∧ (parseMethodDescriptor yX4_bits.desc).map (fun d => d.parameters.length) = some 1 := ⟨rfl, by decide +kernel, by decide +kernel, by decide +kernel⟩
theorem kX4_83 : zLkS RX4 83 yX4_bits cX4_bits 3 (some .int) 1 := zLkS_of (zU_mem 846 (by decide +kernel) (by decide +kernel)) u_sX4_bits u_iniX4 u_cX4_bits u_dX4_bits
theorem u_cX4_isSite : Cond.code yX4_isSite cX4_isSite 1 (some .boolean) ∈ zU := zU_mem 851 (by decide +kernel) (by decide +kernel)
theorem u_sX4_isSite : Cond.static yX4_isSite ∈ zU := zU_mem 850 (by decide +kernel) (by decide +kernel)
theorem u_dX4_isSite : yX4_isSite.cls = RX4 ∧ yX4_isSite.cls ≠ "java/lang/invoke/MethodHandle" ∧ yX4_isSite.cls ≠ "java/lang/invoke/VarHandle" ∧ (parseMethodDescriptor yX4_isSite.desc).map (fun d => d.parameters.length) = some 1 := ⟨rfl, by decide +kernel, by decide +kernel, by decide +kernel⟩
theorem kX4_86 : zLkS RX4 86 yX4_isSite cX4_isSite 1 (some .boolean) 1 := zLkS_of (zU_mem 849 (by decide +kernel) (by decide +kernel)) u_sX4_isSite u_iniX4 u_cX4_isSite u_dX4_isSite
theorem u_cX4_holds : Cond.code yX4_holds cX4_holds 2 (some .boolean) ∈ zU := zU_mem 855 (by decide +kernel) (by decide +kernel)
theorem u_iX4_holds : Cond.instanceMethod yX4_holds ∈ zU := zU_mem 854 (by decide +kernel) (by decide +kernel)
theorem u_vX4_holds : Cond.selects RX4 yX4_holds yX4_holds ∈ zU := zU_mem 15 (by decide +kernel) (by decide +kernel)
theorem u_dX4_holds : yX4_holds.cls = RX4 ∧ yX4_holds.cls ≠ "java/lang/invoke/MethodHandle" ∧ yX4_holds.cls ≠ "java/lang/invoke/VarHandle" ∧ (parseMethodDescriptor yX4_holds.desc).map (fun d => d.parameters.length) = some 1 := ⟨rfl, by decide +kernel, by decide +kernel, by decide +kernel⟩
theorem kX4_90 : zLkV RX4 90 RX4 yX4_holds cX4_holds 2 (some .boolean) 1 := zLkV_of (zU_mem 852 (by decide +kernel) (by decide +kernel)) u_iX4_holds u_vX4_holds u_iniX4 u_cX4_holds u_dX4_holds
theorem u_cX4_save : Cond.code yX4_save cX4_save 2 none ∈ zU := zU_mem 859 (by decide +kernel) (by decide +kernel)
theorem u_iX4_save : Cond.instanceMethod yX4_save ∈ zU := zU_mem 858 (by decide +kernel) (by decide +kernel)
theorem u_vX4_save : Cond.selects RX4 yX4_save yX4_save ∈ zU := zU_mem 16 (by decide +kernel) (by decide +kernel)
theorem u_dX4_save : yX4_save.cls = RX4 ∧ yX4_save.cls ≠ "java/lang/invoke/MethodHandle" ∧ yX4_save.cls ≠ "java/lang/invoke/VarHandle" ∧ (parseMethodDescriptor yX4_save.desc).map (fun d => d.parameters.length) = some 0 := ⟨rfl, by decide +kernel, by decide +kernel, by decide +kernel⟩
theorem kX4_93 : zLkV RX4 93 RX4 yX4_save cX4_save 2 none 0 := zLkV_of (zU_mem 856 (by decide +kernel) (by decide +kernel)) u_iX4_save u_vX4_save u_iniX4 u_cX4_save u_dX4_save
theorem u_cX4_isDeal : Cond.code yX4_isDeal cX4_isDeal 2 (some .boolean) ∈ zU := zU_mem 871 (by decide +kernel) (by decide +kernel)
theorem u_iX4_isDeal : Cond.instanceMethod yX4_isDeal ∈ zU := zU_mem 870 (by decide +kernel) (by decide +kernel)
theorem u_vX4_isDeal : Cond.selects RX4 yX4_isDeal yX4_isDeal ∈ zU := zU_mem 18 (by decide +kernel) (by decide +kernel)
theorem u_dX4_isDeal : yX4_isDeal.cls = RX4 ∧ yX4_isDeal.cls ≠ "java/lang/invoke/MethodHandle" ∧ yX4_isDeal.cls ≠ "java/lang/invoke/VarHandle" ∧ (parseMethodDescriptor yX4_isDeal.desc).map (fun d => d.parameters.length) = some 1 := ⟨rfl, by decide +kernel, by decide +kernel, by decide +kernel⟩
theorem kX4_96 : zLkV RX4 96 RX4 yX4_isDeal cX4_isDeal 2 (some .boolean) 1 := zLkV_of (zU_mem 868 (by decide +kernel) (by decide +kernel)) u_iX4_isDeal u_vX4_isDeal u_iniX4 u_cX4_isDeal u_dX4_isDeal
theorem u_cX4_canVote : Cond.code yX4_canVote cX4_canVote 3 (some .boolean) ∈ zU := zU_mem 875 (by decide +kernel) (by decide +kernel)
theorem u_iX4_canVote : Cond.instanceMethod yX4_canVote ∈ zU := zU_mem 874 (by decide +kernel) (by decide +kernel)
theorem u_vX4_canVote : Cond.selects RX4 yX4_canVote yX4_canVote ∈ zU := zU_mem 19 (by decide +kernel) (by decide +kernel)
theorem u_dX4_canVote : yX4_canVote.cls = RX4 ∧ yX4_canVote.cls ≠ "java/lang/invoke/MethodHandle" ∧ yX4_canVote.cls ≠ "java/lang/invoke/VarHandle" ∧ (parseMethodDescriptor yX4_canVote.desc).map (fun d => d.parameters.length) = some 2 := ⟨rfl, by decide +kernel, by decide +kernel, by decide +kernel⟩
theorem kX4_99 : zLkV RX4 99 RX4 yX4_canVote cX4_canVote 3 (some .boolean) 2 := zLkV_of (zU_mem 872 (by decide +kernel) (by decide +kernel)) u_iX4_canVote u_vX4_canVote u_iniX4 u_cX4_canVote u_dX4_canVote
theorem u_cX4_votes : Cond.code yX4_votes cX4_votes 4 none ∈ zU := zU_mem 895 (by decide +kernel) (by decide +kernel)
theorem u_iX4_votes : Cond.instanceMethod yX4_votes ∈ zU := zU_mem 894 (by decide +kernel) (by decide +kernel)
theorem u_vX4_votes : Cond.selects RX4 yX4_votes yX4_votes ∈ zU := zU_mem 24 (by decide +kernel) (by decide +kernel)
theorem u_dX4_votes : yX4_votes.cls = RX4 ∧ yX4_votes.cls ≠ "java/lang/invoke/MethodHandle" ∧ yX4_votes.cls ≠ "java/lang/invoke/VarHandle" ∧ (parseMethodDescriptor yX4_votes.desc).map (fun d => d.parameters.length) = some 3 := ⟨rfl, by decide +kernel, by decide +kernel, by decide +kernel⟩
theorem kX4_102 : zLkV RX4 102 RX4 yX4_votes cX4_votes 4 none 3 := zLkV_of (zU_mem 892 (by decide +kernel) (by decide +kernel)) u_iX4_votes u_vX4_votes u_iniX4 u_cX4_votes u_dX4_votes
theorem u_cX4_canDecide : Cond.code yX4_canDecide cX4_canDecide 2 (some .boolean) ∈ zU := zU_mem 919 (by decide +kernel) (by decide +kernel)
theorem u_iX4_canDecide : Cond.instanceMethod yX4_canDecide ∈ zU := zU_mem 918 (by decide +kernel) (by decide +kernel)
theorem u_vX4_canDecide : Cond.selects RX4 yX4_canDecide yX4_canDecide ∈ zU := zU_mem 29 (by decide +kernel) (by decide +kernel)
theorem u_dX4_canDecide : yX4_canDecide.cls = RX4 ∧ yX4_canDecide.cls ≠ "java/lang/invoke/MethodHandle" ∧ yX4_canDecide.cls ≠ "java/lang/invoke/VarHandle" ∧ (parseMethodDescriptor yX4_canDecide.desc).map (fun d => d.parameters.length) = some 1 := ⟨rfl, by decide +kernel, by decide +kernel, by decide +kernel⟩
theorem kX4_106 : zLkV RX4 106 RX4 yX4_canDecide cX4_canDecide 2 (some .boolean) 1 := zLkV_of (zU_mem 916 (by decide +kernel) (by decide +kernel)) u_iX4_canDecide u_vX4_canDecide u_iniX4 u_cX4_canDecide u_dX4_canDecide
theorem u_cX4_verdict : Cond.code yX4_verdict cX4_verdict 4 (some .int) ∈ zU := zU_mem 923 (by decide +kernel) (by decide +kernel)
theorem u_iX4_verdict : Cond.instanceMethod yX4_verdict ∈ zU := zU_mem 922 (by decide +kernel) (by decide +kernel)
theorem u_vX4_verdict : Cond.selects RX4 yX4_verdict yX4_verdict ∈ zU := zU_mem 30 (by decide +kernel) (by decide +kernel)
theorem u_dX4_verdict : yX4_verdict.cls = RX4 ∧ yX4_verdict.cls ≠ "java/lang/invoke/MethodHandle" ∧ yX4_verdict.cls ≠ "java/lang/invoke/VarHandle" ∧ (parseMethodDescriptor yX4_verdict.desc).map (fun d => d.parameters.length) = some 1 := ⟨rfl, by decide +kernel, by decide +kernel, by decide +kernel⟩
theorem kX4_109 : zLkV RX4 109 RX4 yX4_verdict cX4_verdict 4 (some .int) 1 := zLkV_of (zU_mem 920 (by decide +kernel) (by decide +kernel)) u_iX4_verdict u_vX4_verdict u_iniX4 u_cX4_verdict u_dX4_verdict
theorem u_cX4_canTell : Cond.code yX4_canTell cX4_canTell 3 (some .boolean) ∈ zU := zU_mem 935 (by decide +kernel) (by decide +kernel)
theorem u_iX4_canTell : Cond.instanceMethod yX4_canTell ∈ zU := zU_mem 934 (by decide +kernel) (by decide +kernel)
theorem u_vX4_canTell : Cond.selects RX4 yX4_canTell yX4_canTell ∈ zU := zU_mem 32 (by decide +kernel) (by decide +kernel)
theorem u_dX4_canTell : yX4_canTell.cls = RX4 ∧ yX4_canTell.cls ≠ "java/lang/invoke/MethodHandle" ∧ yX4_canTell.cls ≠ "java/lang/invoke/VarHandle" ∧ (parseMethodDescriptor yX4_canTell.desc).map (fun d => d.parameters.length) = some 2 := ⟨rfl, by decide +kernel, by decide +kernel, by decide +kernel⟩
theorem kX4_112 : zLkV RX4 112 RX4 yX4_canTell cX4_canTell 3 (some .boolean) 2 := zLkV_of (zU_mem 932 (by decide +kernel) (by decide +kernel)) u_iX4_canTell u_vX4_canTell u_iniX4 u_cX4_canTell u_dX4_canTell
theorem u_cX4_canAsk : Cond.code yX4_canAsk cX4_canAsk 4 (some .boolean) ∈ zU := zU_mem 947 (by decide +kernel) (by decide +kernel)
theorem u_iX4_canAsk : Cond.instanceMethod yX4_canAsk ∈ zU := zU_mem 946 (by decide +kernel) (by decide +kernel)
theorem u_vX4_canAsk : Cond.selects RX4 yX4_canAsk yX4_canAsk ∈ zU := zU_mem 34 (by decide +kernel) (by decide +kernel)
theorem u_dX4_canAsk : yX4_canAsk.cls = RX4 ∧ yX4_canAsk.cls ≠ "java/lang/invoke/MethodHandle" ∧ yX4_canAsk.cls ≠ "java/lang/invoke/VarHandle" ∧ (parseMethodDescriptor yX4_canAsk.desc).map (fun d => d.parameters.length) = some 3 := ⟨rfl, by decide +kernel, by decide +kernel, by decide +kernel⟩
theorem kX4_115 : zLkV RX4 115 RX4 yX4_canAsk cX4_canAsk 4 (some .boolean) 3 := zLkV_of (zU_mem 944 (by decide +kernel) (by decide +kernel)) u_iX4_canAsk u_vX4_canAsk u_iniX4 u_cX4_canAsk u_dX4_canAsk
theorem u_cX4_inDoubt : Cond.code yX4_inDoubt cX4_inDoubt 4 (some .int) ∈ zU := zU_mem 963 (by decide +kernel) (by decide +kernel)
theorem u_iX4_inDoubt : Cond.instanceMethod yX4_inDoubt ∈ zU := zU_mem 962 (by decide +kernel) (by decide +kernel)
theorem u_vX4_inDoubt : Cond.selects RX4 yX4_inDoubt yX4_inDoubt ∈ zU := zU_mem 37 (by decide +kernel) (by decide +kernel)
theorem u_dX4_inDoubt : yX4_inDoubt.cls = RX4 ∧ yX4_inDoubt.cls ≠ "java/lang/invoke/MethodHandle" ∧ yX4_inDoubt.cls ≠ "java/lang/invoke/VarHandle" ∧ (parseMethodDescriptor yX4_inDoubt.desc).map (fun d => d.parameters.length) = some 1 := ⟨rfl, by decide +kernel, by decide +kernel, by decide +kernel⟩
theorem kX4_118 : zLkV RX4 118 RX4 yX4_inDoubt cX4_inDoubt 4 (some .int) 1 := zLkV_of (zU_mem 960 (by decide +kernel) (by decide +kernel)) u_iX4_inDoubt u_vX4_inDoubt u_iniX4 u_cX4_inDoubt u_dX4_inDoubt
theorem u_cX4_comes : Cond.code yX4_comes cX4_comes 4 (some .int) ∈ zU := zU_mem 971 (by decide +kernel) (by decide +kernel)
theorem u_iX4_comes : Cond.instanceMethod yX4_comes ∈ zU := zU_mem 970 (by decide +kernel) (by decide +kernel)
theorem u_vX4_comes : Cond.selects RX4 yX4_comes yX4_comes ∈ zU := zU_mem 38 (by decide +kernel) (by decide +kernel)
theorem u_dX4_comes : yX4_comes.cls = RX4 ∧ yX4_comes.cls ≠ "java/lang/invoke/MethodHandle" ∧ yX4_comes.cls ≠ "java/lang/invoke/VarHandle" ∧ (parseMethodDescriptor yX4_comes.desc).map (fun d => d.parameters.length) = some 1 := ⟨rfl, by decide +kernel, by decide +kernel, by decide +kernel⟩
theorem kX4_121 : zLkV RX4 121 RX4 yX4_comes cX4_comes 4 (some .int) 1 := zLkV_of (zU_mem 968 (by decide +kernel) (by decide +kernel)) u_iX4_comes u_vX4_comes u_iniX4 u_cX4_comes u_dX4_comes
theorem u_cX4_passes : Cond.code yX4_passes cX4_passes 4 (some .int) ∈ zU := zU_mem 979 (by decide +kernel) (by decide +kernel)
theorem u_iX4_passes : Cond.instanceMethod yX4_passes ∈ zU := zU_mem 978 (by decide +kernel) (by decide +kernel)
theorem u_vX4_passes : Cond.selects RX4 yX4_passes yX4_passes ∈ zU := zU_mem 39 (by decide +kernel) (by decide +kernel)
theorem u_dX4_passes : yX4_passes.cls = RX4 ∧ yX4_passes.cls ≠ "java/lang/invoke/MethodHandle" ∧ yX4_passes.cls ≠ "java/lang/invoke/VarHandle" ∧ (parseMethodDescriptor yX4_passes.desc).map (fun d => d.parameters.length) = some 1 := ⟨rfl, by decide +kernel, by decide +kernel, by decide +kernel⟩
theorem kX4_124 : zLkV RX4 124 RX4 yX4_passes cX4_passes 4 (some .int) 1 := zLkV_of (zU_mem 976 (by decide +kernel) (by decide +kernel)) u_iX4_passes u_vX4_passes u_iniX4 u_cX4_passes u_dX4_passes
theorem u_cX4_patienceOf : Cond.code yX4_patienceOf cX4_patienceOf 3 (some .int) ∈ zU := zU_mem 1023 (by decide +kernel) (by decide +kernel)
theorem u_iX4_patienceOf : Cond.instanceMethod yX4_patienceOf ∈ zU := zU_mem 1022 (by decide +kernel) (by decide +kernel)
theorem u_vX4_patienceOf : Cond.selects RX4 yX4_patienceOf yX4_patienceOf ∈ zU := zU_mem 43 (by decide +kernel) (by decide +kernel)
theorem u_dX4_patienceOf : yX4_patienceOf.cls = RX4 ∧ yX4_patienceOf.cls ≠ "java/lang/invoke/MethodHandle" ∧ yX4_patienceOf.cls ≠ "java/lang/invoke/VarHandle" ∧ (parseMethodDescriptor yX4_patienceOf.desc).map (fun d => d.parameters.length) = some 2 := ⟨rfl, by decide +kernel, by decide +kernel, by decide +kernel⟩
theorem kX4_127 : zLkV RX4 127 RX4 yX4_patienceOf cX4_patienceOf 3 (some .int) 2 := zLkV_of (zU_mem 1020 (by decide +kernel) (by decide +kernel)) u_iX4_patienceOf u_vX4_patienceOf u_iniX4 u_cX4_patienceOf u_dX4_patienceOf
theorem u_cX4_openDeals : Cond.code yX4_openDeals cX4_openDeals 5 (some .int) ∈ zU := zU_mem 1031 (by decide +kernel) (by decide +kernel)
theorem u_iX4_openDeals : Cond.instanceMethod yX4_openDeals ∈ zU := zU_mem 1030 (by decide +kernel) (by decide +kernel)
theorem u_vX4_openDeals : Cond.selects RX4 yX4_openDeals yX4_openDeals ∈ zU := zU_mem 44 (by decide +kernel) (by decide +kernel)
theorem u_dX4_openDeals : yX4_openDeals.cls = RX4 ∧ yX4_openDeals.cls ≠ "java/lang/invoke/MethodHandle" ∧ yX4_openDeals.cls ≠ "java/lang/invoke/VarHandle" ∧ (parseMethodDescriptor yX4_openDeals.desc).map (fun d => d.parameters.length) = some 0 := ⟨rfl, by decide +kernel, by decide +kernel, by decide +kernel⟩
theorem kX4_130 : zLkV RX4 130 RX4 yX4_openDeals cX4_openDeals 5 (some .int) 0 := zLkV_of (zU_mem 1028 (by decide +kernel) (by decide +kernel)) u_iX4_openDeals u_vX4_openDeals u_iniX4 u_cX4_openDeals u_dX4_openDeals
theorem u_cX4_helperOf : Cond.code yX4_helperOf cX4_helperOf 4 (some .int) ∈ zU := zU_mem 1043 (by decide +kernel) (by decide +kernel)
theorem u_iX4_helperOf : Cond.instanceMethod yX4_helperOf ∈ zU := zU_mem 1042 (by decide +kernel) (by decide +kernel)
theorem u_vX4_helperOf : Cond.selects RX4 yX4_helperOf yX4_helperOf ∈ zU := zU_mem 46 (by decide +kernel) (by decide +kernel)
theorem u_dX4_helperOf : yX4_helperOf.cls = RX4 ∧ yX4_helperOf.cls ≠ "java/lang/invoke/MethodHandle" ∧ yX4_helperOf.cls ≠ "java/lang/invoke/VarHandle" ∧ (parseMethodDescriptor yX4_helperOf.desc).map (fun d => d.parameters.length) = some 2 := ⟨rfl, by decide +kernel, by decide +kernel, by decide +kernel⟩
theorem kX4_134 : zLkV RX4 134 RX4 yX4_helperOf cX4_helperOf 4 (some .int) 2 := zLkV_of (zU_mem 1040 (by decide +kernel) (by decide +kernel)) u_iX4_helperOf u_vX4_helperOf u_iniX4 u_cX4_helperOf u_dX4_helperOf
theorem u_cX4_stuckDeals : Cond.code yX4_stuckDeals cX4_stuckDeals 6 (some .int) ∈ zU := zU_mem 1039 (by decide +kernel) (by decide +kernel)
theorem u_iX4_stuckDeals : Cond.instanceMethod yX4_stuckDeals ∈ zU := zU_mem 1038 (by decide +kernel) (by decide +kernel)
theorem u_vX4_stuckDeals : Cond.selects RX4 yX4_stuckDeals yX4_stuckDeals ∈ zU := zU_mem 45 (by decide +kernel) (by decide +kernel)
theorem u_dX4_stuckDeals : yX4_stuckDeals.cls = RX4 ∧ yX4_stuckDeals.cls ≠ "java/lang/invoke/MethodHandle" ∧ yX4_stuckDeals.cls ≠ "java/lang/invoke/VarHandle" ∧ (parseMethodDescriptor yX4_stuckDeals.desc).map (fun d => d.parameters.length) = some 0 := ⟨rfl, by decide +kernel, by decide +kernel, by decide +kernel⟩
theorem kX4_137 : zLkV RX4 137 RX4 yX4_stuckDeals cX4_stuckDeals 6 (some .int) 0 := zLkV_of (zU_mem 1036 (by decide +kernel) (by decide +kernel)) u_iX4_stuckDeals u_vX4_stuckDeals u_iniX4 u_cX4_stuckDeals u_dX4_stuckDeals
theorem u_cX4_sign : Cond.code yX4_sign cX4_sign 1 (some .int) ∈ zU := zU_mem 1099 (by decide +kernel) (by decide +kernel)
theorem u_iX4_sign : Cond.instanceMethod yX4_sign ∈ zU := zU_mem 1098 (by decide +kernel) (by decide +kernel)
theorem u_vX4_sign : Cond.selects RX4 yX4_sign yX4_sign ∈ zU := zU_mem 49 (by decide +kernel) (by decide +kernel)
theorem u_dX4_sign : yX4_sign.cls = RX4 ∧ yX4_sign.cls ≠ "java/lang/invoke/MethodHandle" ∧ yX4_sign.cls ≠ "java/lang/invoke/VarHandle" ∧ (parseMethodDescriptor yX4_sign.desc).map (fun d => d.parameters.length) = some 0 := ⟨rfl, by decide +kernel, by decide +kernel, by decide +kernel⟩
theorem kX4_146 : zLkV RX4 146 RX4 yX4_sign cX4_sign 1 (some .int) 0 := zLkV_of (zU_mem 1096 (by decide +kernel) (by decide +kernel)) u_iX4_sign u_vX4_sign u_iniX4 u_cX4_sign u_dX4_sign
theorem u_cX4_digit : Cond.code yX4_digit cX4_digit 3 (some .int) ∈ zU := zU_mem 1111 (by decide +kernel) (by decide +kernel)
theorem u_iX4_digit : Cond.instanceMethod yX4_digit ∈ zU := zU_mem 1110 (by decide +kernel) (by decide +kernel)
theorem u_vX4_digit : Cond.selects RX4 yX4_digit yX4_digit ∈ zU := zU_mem 52 (by decide +kernel) (by decide +kernel)
theorem u_dX4_digit : yX4_digit.cls = RX4 ∧ yX4_digit.cls ≠ "java/lang/invoke/MethodHandle" ∧ yX4_digit.cls ≠ "java/lang/invoke/VarHandle" ∧ (parseMethodDescriptor yX4_digit.desc).map (fun d => d.parameters.length) = some 1 := ⟨rfl, by decide +kernel, by decide +kernel, by decide +kernel⟩
theorem kX4_149 : zLkV RX4 149 RX4 yX4_digit cX4_digit 3 (some .int) 1 := zLkV_of (zU_mem 1108 (by decide +kernel) (by decide +kernel)) u_iX4_digit u_vX4_digit u_iniX4 u_cX4_digit u_dX4_digit
theorem u_cX4_takes : Cond.code yX4_takes cX4_takes 3 (some .boolean) ∈ zU := zU_mem 1103 (by decide +kernel) (by decide +kernel)
theorem u_iX4_takes : Cond.instanceMethod yX4_takes ∈ zU := zU_mem 1102 (by decide +kernel) (by decide +kernel)
theorem u_vX4_takes : Cond.selects RX4 yX4_takes yX4_takes ∈ zU := zU_mem 50 (by decide +kernel) (by decide +kernel)
theorem u_dX4_takes : yX4_takes.cls = RX4 ∧ yX4_takes.cls ≠ "java/lang/invoke/MethodHandle" ∧ yX4_takes.cls ≠ "java/lang/invoke/VarHandle" ∧ (parseMethodDescriptor yX4_takes.desc).map (fun d => d.parameters.length) = some 1 := ⟨rfl, by decide +kernel, by decide +kernel, by decide +kernel⟩
theorem kX4_158 : zLkV RX4 158 RX4 yX4_takes cX4_takes 3 (some .boolean) 1 := zLkV_of (zU_mem 1100 (by decide +kernel) (by decide +kernel)) u_iX4_takes u_vX4_takes u_iniX4 u_cX4_takes u_dX4_takes
theorem u_cX4_readsTicks : Cond.code yX4_readsTicks cX4_readsTicks 1 (some .boolean) ∈ zU := zU_mem 1107 (by decide +kernel) (by decide +kernel)
theorem u_iX4_readsTicks : Cond.instanceMethod yX4_readsTicks ∈ zU := zU_mem 1106 (by decide +kernel) (by decide +kernel)
theorem u_vX4_readsTicks : Cond.selects RX4 yX4_readsTicks yX4_readsTicks ∈ zU := zU_mem 51 (by decide +kernel) (by decide +kernel)
theorem u_dX4_readsTicks : yX4_readsTicks.cls = RX4 ∧ yX4_readsTicks.cls ≠ "java/lang/invoke/MethodHandle" ∧ yX4_readsTicks.cls ≠ "java/lang/invoke/VarHandle" ∧ (parseMethodDescriptor yX4_readsTicks.desc).map (fun d => d.parameters.length) = some 0 := ⟨rfl, by decide +kernel, by decide +kernel, by decide +kernel⟩
theorem kX4_161 : zLkV RX4 161 RX4 yX4_readsTicks cX4_readsTicks 1 (some .boolean) 0 := zLkV_of (zU_mem 1104 (by decide +kernel) (by decide +kernel)) u_iX4_readsTicks u_vX4_readsTicks u_iniX4 u_cX4_readsTicks u_dX4_readsTicks
theorem u_cX4_readsAction : Cond.code yX4_readsAction cX4_readsAction 1 (some .boolean) ∈ zU := zU_mem 1095 (by decide +kernel) (by decide +kernel)
theorem u_iX4_readsAction : Cond.instanceMethod yX4_readsAction ∈ zU := zU_mem 1094 (by decide +kernel) (by decide +kernel)
theorem u_vX4_readsAction : Cond.selects RX4 yX4_readsAction yX4_readsAction ∈ zU := zU_mem 48 (by decide +kernel) (by decide +kernel)
theorem u_dX4_readsAction : yX4_readsAction.cls = RX4 ∧ yX4_readsAction.cls ≠ "java/lang/invoke/MethodHandle" ∧ yX4_readsAction.cls ≠ "java/lang/invoke/VarHandle" ∧ (parseMethodDescriptor yX4_readsAction.desc).map (fun d => d.parameters.length) = some 0 := ⟨rfl, by decide +kernel, by decide +kernel, by decide +kernel⟩
theorem kX4_171 : zLkV RX4 171 RX4 yX4_readsAction cX4_readsAction 1 (some .boolean) 0 := zLkV_of (zU_mem 1092 (by decide +kernel) (by decide +kernel)) u_iX4_readsAction u_vX4_readsAction u_iniX4 u_cX4_readsAction u_dX4_readsAction
theorem u_cX4_areActions : Cond.code yX4_areActions cX4_areActions 1 (some .boolean) ∈ zU := zU_mem 1091 (by decide +kernel) (by decide +kernel)
theorem u_iX4_areActions : Cond.instanceMethod yX4_areActions ∈ zU := zU_mem 1090 (by decide +kernel) (by decide +kernel)
theorem u_vX4_areActions : Cond.selects RX4 yX4_areActions yX4_areActions ∈ zU := zU_mem 47 (by decide +kernel) (by decide +kernel)
theorem u_dX4_areActions : yX4_areActions.cls = RX4 ∧ yX4_areActions.cls ≠ "java/lang/invoke/MethodHandle" ∧ yX4_areActions.cls ≠ "java/lang/invoke/VarHandle" ∧ (parseMethodDescriptor yX4_areActions.desc).map (fun d => d.parameters.length) = some 0 := ⟨rfl, by decide +kernel, by decide +kernel, by decide +kernel⟩
theorem kX4_174 : zLkV RX4 174 RX4 yX4_areActions cX4_areActions 1 (some .boolean) 0 := zLkV_of (zU_mem 1088 (by decide +kernel) (by decide +kernel)) u_iX4_areActions u_vX4_areActions u_iniX4 u_cX4_areActions u_dX4_areActions
theorem u_cX4_can : Cond.code yX4_can cX4_can 1 (some .boolean) ∈ zU := zU_mem 1119 (by decide +kernel) (by decide +kernel)
theorem u_iX4_can : Cond.instanceMethod yX4_can ∈ zU := zU_mem 1118 (by decide +kernel) (by decide +kernel)
theorem u_vX4_can : Cond.selects RX4 yX4_can yX4_can ∈ zU := zU_mem 53 (by decide +kernel) (by decide +kernel)
theorem u_dX4_can : yX4_can.cls = RX4 ∧ yX4_can.cls ≠ "java/lang/invoke/MethodHandle" ∧ yX4_can.cls ≠ "java/lang/invoke/VarHandle" ∧ (parseMethodDescriptor yX4_can.desc).map (fun d => d.parameters.length) = some 0 := ⟨rfl, by decide +kernel, by decide +kernel, by decide +kernel⟩
theorem kX4_177 : zLkV RX4 177 RX4 yX4_can cX4_can 1 (some .boolean) 0 := zLkV_of (zU_mem 1116 (by decide +kernel) (by decide +kernel)) u_iX4_can u_vX4_can u_iniX4 u_cX4_can u_dX4_can
theorem u_cX4_does : Cond.code yX4_does cX4_does 1 none ∈ zU := zU_mem 1123 (by decide +kernel) (by decide +kernel)
theorem u_iX4_does : Cond.instanceMethod yX4_does ∈ zU := zU_mem 1122 (by decide +kernel) (by decide +kernel)
theorem u_vX4_does : Cond.selects RX4 yX4_does yX4_does ∈ zU := zU_mem 54 (by decide +kernel) (by decide +kernel)
theorem u_dX4_does : yX4_does.cls = RX4 ∧ yX4_does.cls ≠ "java/lang/invoke/MethodHandle" ∧ yX4_does.cls ≠ "java/lang/invoke/VarHandle" ∧ (parseMethodDescriptor yX4_does.desc).map (fun d => d.parameters.length) = some 0 := ⟨rfl, by decide +kernel, by decide +kernel, by decide +kernel⟩
theorem kX4_180 : zLkV RX4 180 RX4 yX4_does cX4_does 1 none 0 := zLkV_of (zU_mem 1120 (by decide +kernel) (by decide +kernel)) u_iX4_does u_vX4_does u_iniX4 u_cX4_does u_dX4_does
theorem u_cX4_mix : Cond.code yX4_mix cX4_mix 3 none ∈ zU := zU_mem 1140 (by decide +kernel) (by decide +kernel)
theorem u_iX4_mix : Cond.instanceMethod yX4_mix ∈ zU := zU_mem 1139 (by decide +kernel) (by decide +kernel)
theorem u_vX4_mix : Cond.selects RX4 yX4_mix yX4_mix ∈ zU := zU_mem 55 (by decide +kernel) (by decide +kernel)
theorem u_dX4_mix : yX4_mix.cls = RX4 ∧ yX4_mix.cls ≠ "java/lang/invoke/MethodHandle" ∧ yX4_mix.cls ≠ "java/lang/invoke/VarHandle" ∧ (parseMethodDescriptor yX4_mix.desc).map (fun d => d.parameters.length) = some 1 := ⟨rfl, by decide +kernel, by decide +kernel, by decide +kernel⟩
theorem kX4_191 : zLkV RX4 191 RX4 yX4_mix cX4_mix 3 none 1 := zLkV_of (zU_mem 1137 (by decide +kernel) (by decide +kernel)) u_iX4_mix u_vX4_mix u_iniX4 u_cX4_mix u_dX4_mix
/-- the world with the block of n rows at the cell k replaced -/
def zBk (σ : zM) (k n : Nat) (N : Nat → Nat → Int) : zM := (fun a b => if k ≤ a ∧ a < k + n then N (a - k) b else σ.1 a b, σ.2)
def zRd (σ : zM) (k : Nat) : Nat → Nat → Int := fun r j => σ.1 (k + r) j
def up2 (N : Nat → Nat → Int) (r j : Nat) (x : Int) : Nat → Nat → Int := fun a b => if a = r ∧ b = j then x else N a b
theorem zBk_rd (σ : zM) (k n : Nat) : zBk σ k n (zRd σ k) = σ := by
  obtain ⟨f, g⟩ := σ
  unfold zBk zRd
  refine congrArg (fun z => (z, g)) (funext fun a => funext fun b => ?_)
  by_cases h : k ≤ a ∧ a < k + n
  · rw [if_pos h]; show f (k + (a - k)) b = f a b; rw [Nat.add_sub_cancel' h.1]
  · rw [if_neg h]
theorem zBk_row {σ : zM} {k n r : Nat} {N : Nat → Nat → Int} (h : r < n) : (zBk σ k n N).1 (k + r) = N r := by
  funext b
  show (if k ≤ k + r ∧ k + r < k + n then N (k + r - k) b else σ.1 (k + r) b) = N r b
  rw [if_pos ⟨by omega, by omega⟩, Nat.add_sub_cancel_left]
theorem zBk_row0 {σ : zM} {k n : Nat} {N : Nat → Nat → Int} (h : 0 < n) : (zBk σ k n N).1 k = N 0 := zBk_row (r := 0) h
theorem zBk_out {σ : zM} {k n a : Nat} {N : Nat → Nat → Int} (h : ¬ (k ≤ a ∧ a < k + n)) : (zBk σ k n N).1 a = σ.1 a := by
  funext b
  show (if k ≤ a ∧ a < k + n then N (a - k) b else σ.1 a b) = σ.1 a b
  rw [if_neg h]
theorem zBk_bk {σ : zM} {k n : Nat} {N N' : Nat → Nat → Int} : zBk (zBk σ k n N) k n N' = zBk σ k n N' := by
  unfold zBk
  refine congrArg (fun z => (z, σ.2)) (funext fun a => funext fun b => ?_)
  by_cases h : k ≤ a ∧ a < k + n
  · rw [if_pos h, if_pos h]
  · rw [if_neg h, if_neg h]; show (if k ≤ a ∧ a < k + n then N (a - k) b else σ.1 a b) = σ.1 a b; rw [if_neg h]
theorem zRd_bk {σ : zM} {k n r : Nat} {N : Nat → Nat → Int} (h : r < n) (j : Nat) : zRd (zBk σ k n N) k r j = N r j := congrFun (zBk_row h) j
theorem zS_bk {σ : zM} {k n r j : Nat} {N : Nat → Nat → Int} {x : Int} (h : r < n) : zS (zBk σ k n N) (k + r) j x = zBk σ k n (up2 N r j x) := by
  unfold zS zBk up2
  refine congrArg (fun z => (z, σ.2)) (funext fun a => funext fun b => ?_)
  show (if a = k + r ∧ b = j then x else (if k ≤ a ∧ a < k + n then N (a - k) b else σ.1 a b)) = (if k ≤ a ∧ a < k + n then (if a - k = r ∧ b = j then x else N (a - k) b) else σ.1 a b)
  by_cases h1 : k ≤ a ∧ a < k + n
  · rw [if_pos h1, if_pos h1]
    by_cases h2 : a = k + r ∧ b = j
    · rw [if_pos h2, if_pos ⟨by omega, h2.2⟩]
    · rw [if_neg h2, if_neg (fun h3 => h2 ⟨by omega, h3.2⟩)]
  · rw [if_neg h1, if_neg h1, if_neg (fun h3 => h1 ⟨by omega, by omega⟩)]
theorem zS_bk0 {σ : zM} {k n j : Nat} {N : Nat → Nat → Int} {x : Int} (h : 0 < n) : zS (zBk σ k n N) k j x = zBk σ k n (up2 N 0 j x) := zS_bk (r := 0) h
section Y
variable {p : Program} {l : Launch} {e : Env} {R : Room} {s : State} {m : MethodId} {args : Array Value} {below : List Frame} {meth : Method} {c : Code} {cc : ByteArray} {nL : Nat} {own : String} {D : va_G} {G : zG} {ad : Nat → Nat} {cells slots : Nat} {Q : State → Prop}
variable {pc : Nat} {lv : List (Nat × Value)} {st : List Value} {σ : zM} {N : Nat → Nat → Int}
/-- arrays of a block -/
theorem y_iald (X : zX p s m args c cc nL own D G ad) {k n w : Nat} (r : Nat) {i : Int} (A : zArr (k + r) w) (hr : r < n) (h0 : 0 ≤ i) (h1 : i < w) (hn : w < 2147483648) (d : decode cc pc = .ok (.iaload, 1))
    (kk : zV p l e R s m args below meth c nL D G ad cells slots Q (pc + 1) lv (vI (N r i.toNat) :: st) (zBk σ k n N)) : zV p l e R s m args below meth c nL D G ad cells slots Q pc lv (vI i :: .ref (ad (k + r)) :: st) (zBk σ k n N) :=
  z_iald X A h0 h1 hn d (by rw [zBk_row hr]; exact kk)
theorem y_iast (X : zX p s m args c cc nL own D G ad) {k n w : Nat} (r : Nat) {i x : Int} (A : zArr (k + r) w) (hr : r < n) (h0 : 0 ≤ i) (h1 : i < w) (hn : w < 2147483648) (d : decode cc pc = .ok (.iastore, 1))
    (kk : zV p l e R s m args below meth c nL D G ad cells slots Q (pc + 1) lv st (zBk σ k n (up2 N r i.toNat x))) : zV p l e R s m args below meth c nL D G ad cells slots Q pc lv (vI x :: vI i :: .ref (ad (k + r)) :: st) (zBk σ k n N) :=
  z_iast X A h0 h1 hn d (by rw [zS_bk hr]; exact kk)
theorem y_gNet0 (X : zX p s m args c cc nL own D G ad) {k : Nat} (hk : zNet k) {ix : Nat} (F : zFld own ix 2 0 RX2 TX2 11) (d : decode cc pc = .ok (.getfield ix, 3))
    (kk : zV p l e R s m args below meth c nL D G ad cells slots Q (pc + 3) lv (vI (N 0 0) :: st) (zBk σ k 8 N)) : zV p l e R s m args below meth c nL D G ad cells slots Q pc lv (.ref (ad k) :: st) (zBk σ k 8 N) :=
  z_get X F (zNet_lt hk) (zNet_obj hk ad G _ _) rfl d (by rw [show (zBk σ k 8 N).1 k 0 = N 0 0 from congrFun (zBk_row0 (by decide)) 0]; exact kk)
theorem y_pNet0 (X : zX p s m args c cc nL own D G ad) {k : Nat} (hk : zNet k) {ix : Nat} {x : Int} (F : zFld own ix 2 0 RX2 TX2 11) (d : decode cc pc = .ok (.putfield ix, 3))
    (kk : zV p l e R s m args below meth c nL D G ad cells slots Q (pc + 3) lv st (zBk σ k 8 (up2 N 0 0 x))) : zV p l e R s m args below meth c nL D G ad cells slots Q pc lv (vI x :: .ref (ad k) :: st) (zBk σ k 8 N) :=
  z_putI X F tyX2 tyX2_ok nmX2 (zNet_lt hk) (zNet_obj hk ad G _ _) (by rw [zNet_obj hk]; rfl) (Nat.le_of_ble_eq_true rfl) rfl (by decide +kernel) d (by rw [zS_bk0 (by decide)]; exact kk)
theorem y_gNet1 (X : zX p s m args c cc nL own D G ad) {k : Nat} (hk : zNet k) {ix : Nat} (F : zFld own ix 2 1 RX2 TX2 11) (d : decode cc pc = .ok (.getfield ix, 3))
    (kk : zV p l e R s m args below meth c nL D G ad cells slots Q (pc + 3) lv (vI (N 0 1) :: st) (zBk σ k 8 N)) : zV p l e R s m args below meth c nL D G ad cells slots Q pc lv (.ref (ad k) :: st) (zBk σ k 8 N) :=
  z_get X F (zNet_lt hk) (zNet_obj hk ad G _ _) rfl d (by rw [show (zBk σ k 8 N).1 k 1 = N 0 1 from congrFun (zBk_row0 (by decide)) 1]; exact kk)
theorem y_pNet1 (X : zX p s m args c cc nL own D G ad) {k : Nat} (hk : zNet k) {ix : Nat} {x : Int} (F : zFld own ix 2 1 RX2 TX2 11) (d : decode cc pc = .ok (.putfield ix, 3))
    (kk : zV p l e R s m args below meth c nL D G ad cells slots Q (pc + 3) lv st (zBk σ k 8 (up2 N 0 1 x))) : zV p l e R s m args below meth c nL D G ad cells slots Q pc lv (vI x :: .ref (ad k) :: st) (zBk σ k 8 N) :=
  z_putI X F tyX2 tyX2_ok nmX2 (zNet_lt hk) (zNet_obj hk ad G _ _) (by rw [zNet_obj hk]; rfl) (Nat.le_of_ble_eq_true rfl) rfl (by decide +kernel) d (by rw [zS_bk0 (by decide)]; exact kk)
theorem y_gNet2 (X : zX p s m args c cc nL own D G ad) {k : Nat} (hk : zNet k) {ix : Nat} (F : zFld own ix 2 2 RX2 TX2 11) (d : decode cc pc = .ok (.getfield ix, 3))
    (kk : zV p l e R s m args below meth c nL D G ad cells slots Q (pc + 3) lv (vI (N 0 2) :: st) (zBk σ k 8 N)) : zV p l e R s m args below meth c nL D G ad cells slots Q pc lv (.ref (ad k) :: st) (zBk σ k 8 N) :=
  z_get X F (zNet_lt hk) (zNet_obj hk ad G _ _) rfl d (by rw [show (zBk σ k 8 N).1 k 2 = N 0 2 from congrFun (zBk_row0 (by decide)) 2]; exact kk)
theorem y_pNet2 (X : zX p s m args c cc nL own D G ad) {k : Nat} (hk : zNet k) {ix : Nat} {x : Int} (F : zFld own ix 2 2 RX2 TX2 11) (d : decode cc pc = .ok (.putfield ix, 3))
    (kk : zV p l e R s m args below meth c nL D G ad cells slots Q (pc + 3) lv st (zBk σ k 8 (up2 N 0 2 x))) : zV p l e R s m args below meth c nL D G ad cells slots Q pc lv (vI x :: .ref (ad k) :: st) (zBk σ k 8 N) :=
  z_putI X F tyX2 tyX2_ok nmX2 (zNet_lt hk) (zNet_obj hk ad G _ _) (by rw [zNet_obj hk]; rfl) (Nat.le_of_ble_eq_true rfl) rfl (by decide +kernel) d (by rw [zS_bk0 (by decide)]; exact kk)
theorem y_gNet3 (X : zX p s m args c cc nL own D G ad) {k : Nat} (hk : zNet k) {ix : Nat} (F : zFld own ix 2 3 RX2 TX2 11) (d : decode cc pc = .ok (.getfield ix, 3))
    (kk : zV p l e R s m args below meth c nL D G ad cells slots Q (pc + 3) lv (vI (N 0 3) :: st) (zBk σ k 8 N)) : zV p l e R s m args below meth c nL D G ad cells slots Q pc lv (.ref (ad k) :: st) (zBk σ k 8 N) :=
  z_get X F (zNet_lt hk) (zNet_obj hk ad G _ _) rfl d (by rw [show (zBk σ k 8 N).1 k 3 = N 0 3 from congrFun (zBk_row0 (by decide)) 3]; exact kk)
theorem y_pNet3 (X : zX p s m args c cc nL own D G ad) {k : Nat} (hk : zNet k) {ix : Nat} {x : Int} (F : zFld own ix 2 3 RX2 TX2 11) (d : decode cc pc = .ok (.putfield ix, 3))
    (kk : zV p l e R s m args below meth c nL D G ad cells slots Q (pc + 3) lv st (zBk σ k 8 (up2 N 0 3 x))) : zV p l e R s m args below meth c nL D G ad cells slots Q pc lv (vI x :: .ref (ad k) :: st) (zBk σ k 8 N) :=
  z_putI X F tyX2 tyX2_ok nmX2 (zNet_lt hk) (zNet_obj hk ad G _ _) (by rw [zNet_obj hk]; rfl) (Nat.le_of_ble_eq_true rfl) rfl (by decide +kernel) d (by rw [zS_bk0 (by decide)]; exact kk)
theorem y_gNet4 (X : zX p s m args c cc nL own D G ad) {k : Nat} (hk : zNet k) {ix : Nat} (F : zFld own ix 2 4 RX2 TX2 11) (d : decode cc pc = .ok (.getfield ix, 3))
    (kk : zV p l e R s m args below meth c nL D G ad cells slots Q (pc + 3) lv (.ref (ad (k + 1)) :: st) σ) : zV p l e R s m args below meth c nL D G ad cells slots Q pc lv (.ref (ad k) :: st) σ :=
  z_get X F (zNet_lt hk) (zNet_obj hk ad G _ _) rfl d kk
theorem y_gNet5 (X : zX p s m args c cc nL own D G ad) {k : Nat} (hk : zNet k) {ix : Nat} (F : zFld own ix 2 5 RX2 TX2 11) (d : decode cc pc = .ok (.getfield ix, 3))
    (kk : zV p l e R s m args below meth c nL D G ad cells slots Q (pc + 3) lv (.ref (ad (k + 2)) :: st) σ) : zV p l e R s m args below meth c nL D G ad cells slots Q pc lv (.ref (ad k) :: st) σ :=
  z_get X F (zNet_lt hk) (zNet_obj hk ad G _ _) rfl d kk
theorem y_gNet6 (X : zX p s m args c cc nL own D G ad) {k : Nat} (hk : zNet k) {ix : Nat} (F : zFld own ix 2 6 RX2 TX2 11) (d : decode cc pc = .ok (.getfield ix, 3))
    (kk : zV p l e R s m args below meth c nL D G ad cells slots Q (pc + 3) lv (.ref (ad (k + 3)) :: st) σ) : zV p l e R s m args below meth c nL D G ad cells slots Q pc lv (.ref (ad k) :: st) σ :=
  z_get X F (zNet_lt hk) (zNet_obj hk ad G _ _) rfl d kk
theorem y_gNet7 (X : zX p s m args c cc nL own D G ad) {k : Nat} (hk : zNet k) {ix : Nat} (F : zFld own ix 2 7 RX2 TX2 11) (d : decode cc pc = .ok (.getfield ix, 3))
    (kk : zV p l e R s m args below meth c nL D G ad cells slots Q (pc + 3) lv (.ref (ad (k + 4)) :: st) σ) : zV p l e R s m args below meth c nL D G ad cells slots Q pc lv (.ref (ad k) :: st) σ :=
  z_get X F (zNet_lt hk) (zNet_obj hk ad G _ _) rfl d kk
theorem y_gNet8 (X : zX p s m args c cc nL own D G ad) {k : Nat} (hk : zNet k) {ix : Nat} (F : zFld own ix 2 8 RX2 TX2 11) (d : decode cc pc = .ok (.getfield ix, 3))
    (kk : zV p l e R s m args below meth c nL D G ad cells slots Q (pc + 3) lv (.ref (ad (k + 5)) :: st) σ) : zV p l e R s m args below meth c nL D G ad cells slots Q pc lv (.ref (ad k) :: st) σ :=
  z_get X F (zNet_lt hk) (zNet_obj hk ad G _ _) rfl d kk
theorem y_gNet9 (X : zX p s m args c cc nL own D G ad) {k : Nat} (hk : zNet k) {ix : Nat} (F : zFld own ix 2 9 RX2 TX2 11) (d : decode cc pc = .ok (.getfield ix, 3))
    (kk : zV p l e R s m args below meth c nL D G ad cells slots Q (pc + 3) lv (.ref (ad (k + 6)) :: st) σ) : zV p l e R s m args below meth c nL D G ad cells slots Q pc lv (.ref (ad k) :: st) σ :=
  z_get X F (zNet_lt hk) (zNet_obj hk ad G _ _) rfl d kk
theorem y_gNet10 (X : zX p s m args c cc nL own D G ad) {k : Nat} (hk : zNet k) {ix : Nat} (F : zFld own ix 2 10 RX2 TX2 11) (d : decode cc pc = .ok (.getfield ix, 3))
    (kk : zV p l e R s m args below meth c nL D G ad cells slots Q (pc + 3) lv (.ref (ad (k + 7)) :: st) σ) : zV p l e R s m args below meth c nL D G ad cells slots Q pc lv (.ref (ad k) :: st) σ :=
  z_get X F (zNet_lt hk) (zNet_obj hk ad G _ _) rfl d kk
theorem y_gTxt1 (X : zX p s m args c cc nL own D G ad)  {ix : Nat} (F : zFld own ix 0 1 RX0 TX0 2) (d : decode cc pc = .ok (.getfield ix, 3))
    (kk : zV p l e R s m args below meth c nL D G ad cells slots Q (pc + 3) lv (vI (N 0 1) :: st) (zBk σ 3 2 N)) : zV p l e R s m args below meth c nL D G ad cells slots Q pc lv (.ref (ad 3) :: st) (zBk σ 3 2 N) :=
  z_get X F (by decide) rfl rfl d (by rw [show (zBk σ 3 2 N).1 3 1 = N 0 1 from congrFun (zBk_row0 (by decide)) 1]; exact kk)
theorem y_pTxt1 (X : zX p s m args c cc nL own D G ad)  {ix : Nat} {x : Int} (F : zFld own ix 0 1 RX0 TX0 2) (d : decode cc pc = .ok (.putfield ix, 3))
    (kk : zV p l e R s m args below meth c nL D G ad cells slots Q (pc + 3) lv st (zBk σ 3 2 (up2 N 0 1 x))) : zV p l e R s m args below meth c nL D G ad cells slots Q pc lv (vI x :: .ref (ad 3) :: st) (zBk σ 3 2 N) :=
  z_putI X F tyX0 tyX0_ok nmX0 (by decide) rfl rfl (Nat.le_of_ble_eq_true rfl) rfl (by decide +kernel) d (by rw [zS_bk0 (by decide)]; exact kk)
theorem y_gTxt0 (X : zX p s m args c cc nL own D G ad)  {ix : Nat} (F : zFld own ix 0 0 RX0 TX0 2) (d : decode cc pc = .ok (.getfield ix, 3))
    (kk : zV p l e R s m args below meth c nL D G ad cells slots Q (pc + 3) lv (.ref (ad 4) :: st) σ) : zV p l e R s m args below meth c nL D G ad cells slots Q pc lv (.ref (ad 3) :: st) σ :=
  z_get X F (by decide) rfl rfl d kk
theorem y_gHis1 (X : zX p s m args c cc nL own D G ad)  {ix : Nat} (F : zFld own ix 1 1 RX1 TX1 2) (d : decode cc pc = .ok (.getfield ix, 3))
    (kk : zV p l e R s m args below meth c nL D G ad cells slots Q (pc + 3) lv (vI (N 0 1) :: st) (zBk σ 1 2 N)) : zV p l e R s m args below meth c nL D G ad cells slots Q pc lv (.ref (ad 1) :: st) (zBk σ 1 2 N) :=
  z_get X F (by decide) rfl rfl d (by rw [show (zBk σ 1 2 N).1 1 1 = N 0 1 from congrFun (zBk_row0 (by decide)) 1]; exact kk)
theorem y_pHis1 (X : zX p s m args c cc nL own D G ad)  {ix : Nat} {x : Int} (F : zFld own ix 1 1 RX1 TX1 2) (d : decode cc pc = .ok (.putfield ix, 3))
    (kk : zV p l e R s m args below meth c nL D G ad cells slots Q (pc + 3) lv st (zBk σ 1 2 (up2 N 0 1 x))) : zV p l e R s m args below meth c nL D G ad cells slots Q pc lv (vI x :: .ref (ad 1) :: st) (zBk σ 1 2 N) :=
  z_putI X F tyX1 tyX1_ok nmX1 (by decide) rfl rfl (Nat.le_of_ble_eq_true rfl) rfl (by decide +kernel) d (by rw [zS_bk0 (by decide)]; exact kk)
theorem y_gHis0 (X : zX p s m args c cc nL own D G ad)  {ix : Nat} (F : zFld own ix 1 0 RX1 TX1 2) (d : decode cc pc = .ok (.getfield ix, 3))
    (kk : zV p l e R s m args below meth c nL D G ad cells slots Q (pc + 3) lv (.ref (ad 2) :: st) σ) : zV p l e R s m args below meth c nL D G ad cells slots Q pc lv (.ref (ad 1) :: st) σ :=
  z_get X F (by decide) rfl rfl d kk
theorem y_gMod0 (X : zX p s m args c cc nL own D G ad)  {ix : Nat} (F : zFld own ix 4 0 RX4 TX4 11) (d : decode cc pc = .ok (.getfield ix, 3))
    (kk : zV p l e R s m args below meth c nL D G ad cells slots Q (pc + 3) lv (vI (N 0 0) :: st) (zBk σ 5 3 N)) : zV p l e R s m args below meth c nL D G ad cells slots Q pc lv (.ref (ad 5) :: st) (zBk σ 5 3 N) :=
  z_get X F (by decide) rfl rfl d (by rw [show (zBk σ 5 3 N).1 5 0 = N 0 0 from congrFun (zBk_row0 (by decide)) 0]; exact kk)
theorem y_pMod0 (X : zX p s m args c cc nL own D G ad)  {ix : Nat} {x : Int} (F : zFld own ix 4 0 RX4 TX4 11) (d : decode cc pc = .ok (.putfield ix, 3))
    (kk : zV p l e R s m args below meth c nL D G ad cells slots Q (pc + 3) lv st (zBk σ 5 3 (up2 N 0 0 x))) : zV p l e R s m args below meth c nL D G ad cells slots Q pc lv (vI x :: .ref (ad 5) :: st) (zBk σ 5 3 N) :=
  z_putI X F tyX4 tyX4_ok nmX4 (by decide) rfl rfl (Nat.le_of_ble_eq_true rfl) rfl (by decide +kernel) d (by rw [zS_bk0 (by decide)]; exact kk)
theorem y_gMod2 (X : zX p s m args c cc nL own D G ad)  {ix : Nat} (F : zFld own ix 4 2 RX4 TX4 11) (d : decode cc pc = .ok (.getfield ix, 3))
    (kk : zV p l e R s m args below meth c nL D G ad cells slots Q (pc + 3) lv (vI (N 0 2) :: st) (zBk σ 5 3 N)) : zV p l e R s m args below meth c nL D G ad cells slots Q pc lv (.ref (ad 5) :: st) (zBk σ 5 3 N) :=
  z_get X F (by decide) rfl rfl d (by rw [show (zBk σ 5 3 N).1 5 2 = N 0 2 from congrFun (zBk_row0 (by decide)) 2]; exact kk)
theorem y_pMod2 (X : zX p s m args c cc nL own D G ad)  {ix : Nat} {x : Int} (F : zFld own ix 4 2 RX4 TX4 11) (d : decode cc pc = .ok (.putfield ix, 3))
    (kk : zV p l e R s m args below meth c nL D G ad cells slots Q (pc + 3) lv st (zBk σ 5 3 (up2 N 0 2 x))) : zV p l e R s m args below meth c nL D G ad cells slots Q pc lv (vI x :: .ref (ad 5) :: st) (zBk σ 5 3 N) :=
  z_putI X F tyX4 tyX4_ok nmX4 (by decide) rfl rfl (Nat.le_of_ble_eq_true rfl) rfl (by decide +kernel) d (by rw [zS_bk0 (by decide)]; exact kk)
theorem y_gMod4 (X : zX p s m args c cc nL own D G ad)  {ix : Nat} (F : zFld own ix 4 4 RX4 TX4 11) (d : decode cc pc = .ok (.getfield ix, 3))
    (kk : zV p l e R s m args below meth c nL D G ad cells slots Q (pc + 3) lv (vI (N 0 4) :: st) (zBk σ 5 3 N)) : zV p l e R s m args below meth c nL D G ad cells slots Q pc lv (.ref (ad 5) :: st) (zBk σ 5 3 N) :=
  z_get X F (by decide) rfl rfl d (by rw [show (zBk σ 5 3 N).1 5 4 = N 0 4 from congrFun (zBk_row0 (by decide)) 4]; exact kk)
theorem y_pMod4 (X : zX p s m args c cc nL own D G ad)  {ix : Nat} {x : Int} (F : zFld own ix 4 4 RX4 TX4 11) (d : decode cc pc = .ok (.putfield ix, 3))
    (kk : zV p l e R s m args below meth c nL D G ad cells slots Q (pc + 3) lv st (zBk σ 5 3 (up2 N 0 4 x))) : zV p l e R s m args below meth c nL D G ad cells slots Q pc lv (vI x :: .ref (ad 5) :: st) (zBk σ 5 3 N) :=
  z_putI X F tyX4 tyX4_ok nmX4 (by decide) rfl rfl (Nat.le_of_ble_eq_true rfl) rfl (by decide +kernel) d (by rw [zS_bk0 (by decide)]; exact kk)
theorem y_gMod5 (X : zX p s m args c cc nL own D G ad)  {ix : Nat} (F : zFld own ix 4 5 RX4 TX4 11) (d : decode cc pc = .ok (.getfield ix, 3))
    (kk : zV p l e R s m args below meth c nL D G ad cells slots Q (pc + 3) lv (vI (N 0 5) :: st) (zBk σ 5 3 N)) : zV p l e R s m args below meth c nL D G ad cells slots Q pc lv (.ref (ad 5) :: st) (zBk σ 5 3 N) :=
  z_get X F (by decide) rfl rfl d (by rw [show (zBk σ 5 3 N).1 5 5 = N 0 5 from congrFun (zBk_row0 (by decide)) 5]; exact kk)
theorem y_pMod5 (X : zX p s m args c cc nL own D G ad)  {ix : Nat} {x : Int} (F : zFld own ix 4 5 RX4 TX4 11) (d : decode cc pc = .ok (.putfield ix, 3))
    (kk : zV p l e R s m args below meth c nL D G ad cells slots Q (pc + 3) lv st (zBk σ 5 3 (up2 N 0 5 x))) : zV p l e R s m args below meth c nL D G ad cells slots Q pc lv (vI x :: .ref (ad 5) :: st) (zBk σ 5 3 N) :=
  z_putI X F tyX4 tyX4_ok nmX4 (by decide) rfl rfl (Nat.le_of_ble_eq_true rfl) rfl (by decide +kernel) d (by rw [zS_bk0 (by decide)]; exact kk)
theorem y_gMod6 (X : zX p s m args c cc nL own D G ad)  {ix : Nat} (F : zFld own ix 4 6 RX4 TX4 11) (d : decode cc pc = .ok (.getfield ix, 3))
    (kk : zV p l e R s m args below meth c nL D G ad cells slots Q (pc + 3) lv (vI (N 0 6) :: st) (zBk σ 5 3 N)) : zV p l e R s m args below meth c nL D G ad cells slots Q pc lv (.ref (ad 5) :: st) (zBk σ 5 3 N) :=
  z_get X F (by decide) rfl rfl d (by rw [show (zBk σ 5 3 N).1 5 6 = N 0 6 from congrFun (zBk_row0 (by decide)) 6]; exact kk)
theorem y_pMod6 (X : zX p s m args c cc nL own D G ad)  {ix : Nat} {x : Int} (F : zFld own ix 4 6 RX4 TX4 11) (d : decode cc pc = .ok (.putfield ix, 3))
    (kk : zV p l e R s m args below meth c nL D G ad cells slots Q (pc + 3) lv st (zBk σ 5 3 (up2 N 0 6 x))) : zV p l e R s m args below meth c nL D G ad cells slots Q pc lv (vI x :: .ref (ad 5) :: st) (zBk σ 5 3 N) :=
  z_putI X F tyX4 tyX4_ok nmX4 (by decide) rfl rfl (Nat.le_of_ble_eq_true rfl) rfl (by decide +kernel) d (by rw [zS_bk0 (by decide)]; exact kk)
theorem y_gMod7 (X : zX p s m args c cc nL own D G ad)  {ix : Nat} (F : zFld own ix 4 7 RX4 TX4 11) (d : decode cc pc = .ok (.getfield ix, 3))
    (kk : zV p l e R s m args below meth c nL D G ad cells slots Q (pc + 3) lv (vI (N 0 7) :: st) (zBk σ 5 3 N)) : zV p l e R s m args below meth c nL D G ad cells slots Q pc lv (.ref (ad 5) :: st) (zBk σ 5 3 N) :=
  z_get X F (by decide) rfl rfl d (by rw [show (zBk σ 5 3 N).1 5 7 = N 0 7 from congrFun (zBk_row0 (by decide)) 7]; exact kk)
theorem y_pMod7 (X : zX p s m args c cc nL own D G ad)  {ix : Nat} {x : Int} (F : zFld own ix 4 7 RX4 TX4 11) (d : decode cc pc = .ok (.putfield ix, 3))
    (kk : zV p l e R s m args below meth c nL D G ad cells slots Q (pc + 3) lv st (zBk σ 5 3 (up2 N 0 7 x))) : zV p l e R s m args below meth c nL D G ad cells slots Q pc lv (vI x :: .ref (ad 5) :: st) (zBk σ 5 3 N) :=
  z_putI X F tyX4 tyX4_ok nmX4 (by decide) rfl rfl (Nat.le_of_ble_eq_true rfl) rfl (by decide +kernel) d (by rw [zS_bk0 (by decide)]; exact kk)
theorem y_gMod8 (X : zX p s m args c cc nL own D G ad)  {ix : Nat} (F : zFld own ix 4 8 RX4 TX4 11) (d : decode cc pc = .ok (.getfield ix, 3))
    (kk : zV p l e R s m args below meth c nL D G ad cells slots Q (pc + 3) lv (vI (N 0 8) :: st) (zBk σ 5 3 N)) : zV p l e R s m args below meth c nL D G ad cells slots Q pc lv (.ref (ad 5) :: st) (zBk σ 5 3 N) :=
  z_get X F (by decide) rfl rfl d (by rw [show (zBk σ 5 3 N).1 5 8 = N 0 8 from congrFun (zBk_row0 (by decide)) 8]; exact kk)
theorem y_pMod8 (X : zX p s m args c cc nL own D G ad)  {ix : Nat} {x : Int} (F : zFld own ix 4 8 RX4 TX4 11) (d : decode cc pc = .ok (.putfield ix, 3))
    (kk : zV p l e R s m args below meth c nL D G ad cells slots Q (pc + 3) lv st (zBk σ 5 3 (up2 N 0 8 x))) : zV p l e R s m args below meth c nL D G ad cells slots Q pc lv (vI x :: .ref (ad 5) :: st) (zBk σ 5 3 N) :=
  z_putI X F tyX4 tyX4_ok nmX4 (by decide) rfl rfl (Nat.le_of_ble_eq_true rfl) rfl (by decide +kernel) d (by rw [zS_bk0 (by decide)]; exact kk)
theorem y_gMod9 (X : zX p s m args c cc nL own D G ad)  {ix : Nat} (F : zFld own ix 4 9 RX4 TX4 11) (d : decode cc pc = .ok (.getfield ix, 3))
    (kk : zV p l e R s m args below meth c nL D G ad cells slots Q (pc + 3) lv (vI (N 0 9) :: st) (zBk σ 5 3 N)) : zV p l e R s m args below meth c nL D G ad cells slots Q pc lv (.ref (ad 5) :: st) (zBk σ 5 3 N) :=
  z_get X F (by decide) rfl rfl d (by rw [show (zBk σ 5 3 N).1 5 9 = N 0 9 from congrFun (zBk_row0 (by decide)) 9]; exact kk)
theorem y_pMod9 (X : zX p s m args c cc nL own D G ad)  {ix : Nat} {x : Int} (F : zFld own ix 4 9 RX4 TX4 11) (d : decode cc pc = .ok (.putfield ix, 3))
    (kk : zV p l e R s m args below meth c nL D G ad cells slots Q (pc + 3) lv st (zBk σ 5 3 (up2 N 0 9 x))) : zV p l e R s m args below meth c nL D G ad cells slots Q pc lv (vI x :: .ref (ad 5) :: st) (zBk σ 5 3 N) :=
  z_putI X F tyX4 tyX4_ok nmX4 (by decide) rfl rfl (Nat.le_of_ble_eq_true rfl) rfl (by decide +kernel) d (by rw [zS_bk0 (by decide)]; exact kk)
theorem y_gMod1 (X : zX p s m args c cc nL own D G ad)  {ix : Nat} (F : zFld own ix 4 1 RX4 TX4 11) (d : decode cc pc = .ok (.getfield ix, 3))
    (kk : zV p l e R s m args below meth c nL D G ad cells slots Q (pc + 3) lv (.ref (ad 6) :: st) σ) : zV p l e R s m args below meth c nL D G ad cells slots Q pc lv (.ref (ad 5) :: st) σ :=
  z_get X F (by decide) rfl rfl d kk
theorem y_gMod3 (X : zX p s m args c cc nL own D G ad)  {ix : Nat} (F : zFld own ix 4 3 RX4 TX4 11) (d : decode cc pc = .ok (.getfield ix, 3))
    (kk : zV p l e R s m args below meth c nL D G ad cells slots Q (pc + 3) lv (.ref (ad 7) :: st) σ) : zV p l e R s m args below meth c nL D G ad cells slots Q pc lv (.ref (ad 5) :: st) σ :=
  z_get X F (by decide) rfl rfl d kk
theorem y_gDea0 (X : zX p s m args c cc nL own D G ad)  {ix : Nat} (F : zFld own ix 3 0 RX3 TX3 4) (d : decode cc pc = .ok (.getfield ix, 3))
    (kk : zV p l e R s m args below meth c nL D G ad cells slots Q (pc + 3) lv (.ref (ad 8) :: st) σ) : zV p l e R s m args below meth c nL D G ad cells slots Q pc lv (.ref (ad 0) :: st) σ :=
  z_get X F (by decide) rfl rfl d kk
theorem y_gDea1 (X : zX p s m args c cc nL own D G ad)  {ix : Nat} (F : zFld own ix 3 1 RX3 TX3 4) (d : decode cc pc = .ok (.getfield ix, 3))
    (kk : zV p l e R s m args below meth c nL D G ad cells slots Q (pc + 3) lv (.ref (ad 16) :: st) σ) : zV p l e R s m args below meth c nL D G ad cells slots Q pc lv (.ref (ad 0) :: st) σ :=
  z_get X F (by decide) rfl rfl d kk
theorem y_gDea2 (X : zX p s m args c cc nL own D G ad)  {ix : Nat} (F : zFld own ix 3 2 RX3 TX3 4) (d : decode cc pc = .ok (.getfield ix, 3))
    (kk : zV p l e R s m args below meth c nL D G ad cells slots Q (pc + 3) lv (.ref (ad 1) :: st) σ) : zV p l e R s m args below meth c nL D G ad cells slots Q pc lv (.ref (ad 0) :: st) σ :=
  z_get X F (by decide) rfl rfl d kk
theorem y_gDea3 (X : zX p s m args c cc nL own D G ad)  {ix : Nat} (F : zFld own ix 3 3 RX3 TX3 4) (d : decode cc pc = .ok (.getfield ix, 3))
    (kk : zV p l e R s m args below meth c nL D G ad cells slots Q (pc + 3) lv (.ref (ad 3) :: st) σ) : zV p l e R s m args below meth c nL D G ad cells slots Q pc lv (.ref (ad 0) :: st) σ :=
  z_get X F (by decide) rfl rfl d kk
end Y
end
section
/-! more rows: truth values, bits, longs, nest mates -/
def zAnd (a b : Int) : Int := (iI a &&& iI b).toInt
def zOr (a b : Int) : Int := (iI a ||| iI b).toInt
def zXor (a b : Int) : Int := (iI a ^^^ iI b).toInt
def zShl (a b : Int) : Int := (iI a <<< (iI b &&& 31)).toInt
def zShr (a b : Int) : Int := (iI a >>> (iI b &&& 31)).toInt
theorem zAnd_eq (a b : Int) : iI a &&& iI b = iI (zAnd a b) := (iI_self _).symm
theorem zOr_eq (a b : Int) : iI a ||| iI b = iI (zOr a b) := (iI_self _).symm
theorem zXor_eq (a b : Int) : iI a ^^^ iI b = iI (zXor a b) := (iI_self _).symm
theorem zShl_eq (a b : Int) : iI a <<< (iI b &&& 31) = iI (zShl a b) := (iI_self _).symm
theorem zShr_eq (a b : Int) : iI a >>> (iI b &&& 31) = iI (zShr a b) := (iI_self _).symm
theorem zB_toInt (x : Int32) : zB x.toInt := iI_rng x
theorem zB_ite {P : Prop} {i : Decidable P} : zB (@ite Int P i 1 0) := by
  by_cases h : P
  · rw [if_pos h]; exact ⟨by decide, by decide⟩
  · rw [if_neg h]; exact ⟨by decide, by decide⟩
theorem zB01 {P : Prop} {i : Decidable P} : @ite Int P i 1 0 = 0 ∨ @ite Int P i 1 0 = 1 := by
  by_cases h : P
  · exact Or.inr (if_pos h)
  · exact Or.inl (if_neg h)
theorem zNA1 {k : Nat} (h : zNet k) : zArr (k + 1) 8 := zNet_arr h 1 (by decide) (by decide)
theorem zNA2 {k : Nat} (h : zNet k) : zArr (k + 2) 8 := zNet_arr h 2 (by decide) (by decide)
theorem zNA3 {k : Nat} (h : zNet k) : zArr (k + 3) 8 := zNet_arr h 3 (by decide) (by decide)
theorem zNA4 {k : Nat} (h : zNet k) : zArr (k + 4) 48 := zNet_arr h 4 (by decide) (by decide)
theorem zNA5 {k : Nat} (h : zNet k) : zArr (k + 5) 48 := zNet_arr h 5 (by decide) (by decide)
theorem zNA6 {k : Nat} (h : zNet k) : zArr (k + 6) 6 := zNet_arr h 6 (by decide) (by decide)
theorem zNA7 {k : Nat} (h : zNet k) : zArr (k + 7) 144 := zNet_arr h 7 (by decide) (by decide)
section Z3
variable {p : Program} {l : Launch} {e : Env} {R : Room} {s : State} {m : MethodId} {args : Array Value} {below : List Frame} {meth : Method} {c : Code} {cc : ByteArray} {nL : Nat} {own : String} {D : va_G} {G : zG} {ad : Nat → Nat} {cells slots : Nat} {Q : State → Prop}
variable {pc : Nat} {lv : List (Nat × Value)} {st : List Value} {σ : zM}
theorem z_ifb_eq (X : zX p s m args c cc nL own D G ad) {P : Prop} {i : Decidable P} {off : Int} (tgt : Nat) (d : decode cc pc = .ok (.ifCond .eq off, 3)) (ht : (pc : Int) + off = (tgt : Int))
    (kt : ¬ P → zV p l e R s m args below meth c nL D G ad cells slots Q tgt lv st σ) (kf : P → zV p l e R s m args below meth c nL D G ad cells slots Q (pc + 3) lv st σ) : zV p l e R s m args below meth c nL D G ad cells slots Q pc lv (vI (@ite Int P i 1 0) :: st) σ :=
  z_if_eq X tgt d ht zB_ite (fun h => kt (fun h2 => by rw [if_pos h2] at h; exact absurd h (by decide))) (fun h => kf (Decidable.byContradiction (fun h2 => h (if_neg h2))))
theorem z_ifb_ne (X : zX p s m args c cc nL own D G ad) {P : Prop} {i : Decidable P} {off : Int} (tgt : Nat) (d : decode cc pc = .ok (.ifCond .ne off, 3)) (ht : (pc : Int) + off = (tgt : Int))
    (kt : P → zV p l e R s m args below meth c nL D G ad cells slots Q tgt lv st σ) (kf : ¬ P → zV p l e R s m args below meth c nL D G ad cells slots Q (pc + 3) lv st σ) : zV p l e R s m args below meth c nL D G ad cells slots Q pc lv (vI (@ite Int P i 1 0) :: st) σ :=
  z_if_ne X tgt d ht zB_ite (fun h => kt (Decidable.byContradiction (fun h2 => h (if_neg h2)))) (fun h => kf (fun h2 => by rw [if_pos h2] at h; exact absurd h (by decide)))
theorem z_lload_n (X : zX p s m args c cc nL own D G ad) {i : Fin 4} {x : Int64} (d : decode cc pc = .ok (.lload_n i, 1)) (hl : zL lv i.val = some (.long x))
    (k : zV p l e R s m args below meth c nL D G ad cells slots Q (pc + 1) lv (.long x :: st) σ) : zV p l e R s m args below meth c nL D G ad cells slots Q pc lv st σ :=
  fun ls H locs h hP hS => lv_lload_n X.1 X.2.1 d rfl (zL_at h hl) (k ls H locs h hP hS)
theorem z_lload (X : zX p s m args c cc nL own D G ad) {i : Nat} {x : Int64} (d : decode cc pc = .ok (.lload i, 2)) (hl : zL lv i = some (.long x))
    (k : zV p l e R s m args below meth c nL D G ad cells slots Q (pc + 2) lv (.long x :: st) σ) : zV p l e R s m args below meth c nL D G ad cells slots Q pc lv st σ :=
  fun ls H locs h hP hS => lv_lload X.1 X.2.1 d (zL_at h hl) (k ls H locs h hP hS)
theorem z_lstore_n (X : zX p s m args c cc nL own D G ad) {i : Fin 4} {x : Int64} (d : decode cc pc = .ok (.lstore_n i, 1)) (hn : i.val + 1 < nL)
    (k : zV p l e R s m args below meth c nL D G ad cells slots Q (pc + 1) (zF2 i.val (.long x) lv) st σ) : zV p l e R s m args below meth c nL D G ad cells slots Q pc lv (.long x :: st) σ :=
  fun ls H locs h hP hS => lv_lstore_n X.1 X.2.1 d rfl h hn rfl (fun ls' h' => k ls' H locs h' hP hS)
theorem z_lstore (X : zX p s m args c cc nL own D G ad) {i : Nat} {x : Int64} (d : decode cc pc = .ok (.lstore i, 2)) (hn : i + 1 < nL)
    (k : zV p l e R s m args below meth c nL D G ad cells slots Q (pc + 2) (zF2 i (.long x) lv) st σ) : zV p l e R s m args below meth c nL D G ad cells slots Q pc lv (.long x :: st) σ :=
  fun ls H locs h hP hS => lv_lstore X.1 X.2.1 d h hn rfl (fun ls' h' => k ls' H locs h' hP hS)
theorem z_i2l (X : zX p s m args c cc nL own D G ad) {a : Int} (d : decode cc pc = .ok (.i2l, 1))
    (k : zV p l e R s m args below meth c nL D G ad cells slots Q (pc + 1) lv (.long (iI a).toInt64 :: st) σ) : zV p l e R s m args below meth c nL D G ad cells slots Q pc lv (vI a :: st) σ :=
  fun ls H locs h hP hS => lv_i2l X.1 X.2.1 d rfl (k ls H locs h hP hS)
theorem z_ladd (X : zX p s m args c cc nL own D G ad) {a b : Int64} (d : decode cc pc = .ok (.ladd, 1))
    (k : zV p l e R s m args below meth c nL D G ad cells slots Q (pc + 1) lv (.long (a + b) :: st) σ) : zV p l e R s m args below meth c nL D G ad cells slots Q pc lv (.long b :: .long a :: st) σ :=
  fun ls H locs h hP hS => lv_ladd X.1 X.2.1 d (k ls H locs h hP hS)
theorem z_lmul (X : zX p s m args c cc nL own D G ad) {a b : Int64} (d : decode cc pc = .ok (.lmul, 1))
    (k : zV p l e R s m args below meth c nL D G ad cells slots Q (pc + 1) lv (.long (a * b) :: st) σ) : zV p l e R s m args below meth c nL D G ad cells slots Q pc lv (.long b :: .long a :: st) σ :=
  fun ls H locs h hP hS => lv_lmul X.1 X.2.1 d (k ls H locs h hP hS)
theorem z_lconst (X : zX p s m args c cc nL own D G ad) {n : Fin 2} (v : Int64) (d : decode cc pc = .ok (.lconst n, 1)) (hv : Int64.ofNat (n : Nat) = v)
    (k : zV p l e R s m args below meth c nL D G ad cells slots Q (pc + 1) lv (.long v :: st) σ) : zV p l e R s m args below meth c nL D G ad cells slots Q pc lv st σ :=
  fun ls H locs h hP hS => lv_lconst X.1 X.2.1 d hv (k ls H locs h hP hS)
theorem z_ldc2 (X : zX p s m args c cc nL own D G ad) {ix : Nat} {v : Int64} (hw : Cond.constantLong own ix v ∈ zU) (d : decode cc pc = .ok (.ldc2_w ix, 3))
    (k : zV p l e R s m args below meth c nL D G ad cells slots Q (pc + 3) lv (.long v :: st) σ) : zV p l e R s m args below meth c nL D G ad cells slots Q pc lv st σ :=
  fun ls H locs h hP hS => lv_ldc2 X.1 X.2.1 X.2.2.2.1 (X.2.2.2.2.1 _ hw) d (k ls H locs h hP hS)
/-- a static method of a nest mate -/
def zLkN (own : String) (idx : Nat) (y : MethodName) (host : String) (bytes : ByteArray) (maxL : Nat) (ret : Option FieldType) (n : Nat) : Prop :=
  (own = RX2 ∧ idx = 72 ∧ y = yX3_isSite ∧ host = RX3) ∧ Cond.static y ∈ zU ∧ Cond.initialized y.cls ∈ zU ∧ Cond.code y bytes maxL ret ∈ zU ∧ y.cls ≠ "java/lang/invoke/MethodHandle" ∧ y.cls ≠ "java/lang/invoke/VarHandle" ∧ (parseMethodDescriptor y.desc).map (fun d => d.parameters.length) = some n
theorem z_callNI1 (X : zX p s m args c cc nL own D G ad) {idx maxL d : Nat} {y : MethodName} {host : String} {bytes : ByteArray} {ret : Option FieldType} {a0 : Value} {Post : Int → zM → Prop} (hM : zKI l D G ad y bytes maxL ret d [a0] σ Post) (K : zLkN own idx y host bytes maxL ret 1) (hR : d + 1 ≤ R.frames ∧ 8 + (maxL + 11) + 30 * d ≤ R.locals) (hW : (st.map fun v => v.category).sum ≤ 8) (hcs : cells ≤ R.cells ∧ slots ≤ R.slots) (dd : decode cc pc = .ok (.invokestatic idx, 3))
    (kk : ∀ (z : Int) (σ1 : zM), Post z σ1 → zV p l e R s m args below meth c nL D G ad cells slots Q (pc + 3) lv (vI z :: st) σ1) : zV p l e R s m args below meth c nL D G ad cells slots Q pc lv (a0 :: st) σ := by
  intro ls H locs h hP hS
  have hts := X.2.2.2.2.1
  refine va_calli (va_runSN (As := [a0]) (rest := st) (n := 1) (ws := Cond.code y bytes maxL ret :: zU) (host := host) ⟨X.1, X.2.1, X.2.2.1, X.2.2.2.1, X.2.2.2.2.1⟩ (hM _) ⟨va_cnB 1 hts (zU_goodIn (zAllc K.2.2.2.1 (fun w h => h))) rfl rfl rfl (by obtain ⟨rfl, rfl, rfl, rfl⟩ := K.1; exact X.2.2.2.2.2.2.2) (hts _ K.2.2.1) ⟨K.2.2.2.2.1, K.2.2.2.2.2.1, K.2.2.2.2.2.2⟩ hR, hts _ K.2.1, trivial⟩ ⟨z_blind, fun U hU hW => ⟨rfl, by rw [hU], by rw [hU]; exact hP, va_K.moved hW.alike X.2.2.2.2.2.1, va_Nw.warmM hW X.2.2.2.2.2.2.2⟩⟩ rfl rfl h.1 rfl (lv_room hW) dd hcs) hS (zA_old hS) (zA_free hS) (fun r σ1 t H1 locs1 ht _ hp hB _ _ hS1 => by
    obtain ⟨z, rfl, hp⟩ := hp
    exact kk z σ1 hp ls H1 locs1 h (by rw [← ht]; exact hB) hS1)
end Z3
theorem kX2_72 : zLkN RX2 72 yX3_isSite RX3 cX3_isSite 1 (some .boolean) 1 := ⟨⟨rfl, rfl, rfl, rfl⟩, zU_mem 313 (by decide +kernel) (by decide +kernel), u_iniX3, zU_mem 314 (by decide +kernel) (by decide +kernel), by decide +kernel, by decide +kernel, by decide +kernel⟩
end
section
/-! what a Net's methods answer and make of it: N r j is the place j of the row r (0: the int fields, 1 leaders, 2 items, 3 decisions, 4 states, 5 patiences, 6 logLengths, 7 logs) -/
abbrev zNt : Type := Nat → Nat → Int
def zAny (f : Int → Bool) : Nat → Bool
  | 0 => false
  | n + 1 => zAny f n || f n
def zSum (f : Int → Int) : Nat → Int
  | 0 => 0
  | n + 1 => zSum f n + f n
def zFind (f : Int → Bool) : Nat → Int
  | 0 => -1
  | n + 1 => if zFind f n ≠ -1 then zFind f n else if f n then (n : Int) else -1
theorem zAny_iff {f : Int → Bool} {n : Nat} : zAny f n = true ↔ ∃ i : Nat, i < n ∧ f i = true := by
  induction n with
  | zero => simp [zAny]
  | succ n ih =>
    rw [zAny, Bool.or_eq_true, ih]
    constructor
    · rintro (⟨i, h1, h2⟩ | h)
      · exact ⟨i, by omega, h2⟩
      · exact ⟨n, by omega, h⟩
    · rintro ⟨i, h1, h2⟩
      by_cases e : i = n
      · subst e; exact Or.inr h2
      · exact Or.inl ⟨i, by omega, h2⟩
theorem zAny_false {f : Int → Bool} {n : Nat} (h : ∀ i : Nat, i < n → f i = false) : zAny f n = false := by
  cases e : zAny f n with
  | false => rfl
  | true =>
    obtain ⟨i, h1, h2⟩ := zAny_iff.mp e
    rw [h i h1] at h2; exact absurd h2 (by decide)
theorem zAny_lt {f : Int → Bool} {n : Nat} (h : zAny f n = false) {i : Nat} (hi : i < n) : f i = false := by
  cases e : f i with
  | false => rfl
  | true => rw [zAny_iff.mpr ⟨i, hi, e⟩] at h; exact absurd h (by decide)
/-- a step of a search, its place an Int -/
theorem zAny_step {f : Int → Bool} {i : Int} (h0 : 0 ≤ i) (h : zAny f i.toNat = false) (hf : f i = false) : zAny f (i + 1).toNat = false := by
  rw [show (i + 1).toNat = i.toNat + 1 by omega, zAny, h, Int.toNat_of_nonneg h0, hf]; rfl
theorem zAny_hit {f : Int → Bool} {i n : Int} (h0 : 0 ≤ i) (h1 : i < n) (hf : f i = true) : zAny f n.toNat = true :=
  zAny_iff.mpr ⟨i.toNat, by omega, by rw [Int.toNat_of_nonneg h0]; exact hf⟩
theorem zSum_step {f : Int → Int} {i : Int} (h0 : 0 ≤ i) : zSum f (i + 1).toNat = zSum f i.toNat + f i := by
  rw [show (i + 1).toNat = i.toNat + 1 by omega, zSum, Int.toNat_of_nonneg h0]
theorem zFind_step {f : Int → Bool} {i : Int} (h0 : 0 ≤ i) (h : zFind f i.toNat = -1) (hf : f i = false) : zFind f (i + 1).toNat = -1 := by
  rw [show (i + 1).toNat = i.toNat + 1 by omega, zFind, h, Int.toNat_of_nonneg h0, hf]; simp
theorem zFind_mono {f : Int → Bool} {a : Int} {n k : Nat} (h : zFind f n = a) (ha : a ≠ -1) : zFind f (n + k) = a := by
  induction k with
  | zero => exact h
  | succ k ih => rw [Nat.add_succ, zFind, ih, if_pos ha]
theorem zFind_hit {f : Int → Bool} {i n : Int} (h0 : 0 ≤ i) (h1 : i < n) (h : zFind f i.toNat = -1) (hf : f i = true) : zFind f n.toNat = i := by
  have h2 : zFind f (i.toNat + 1) = i := by
    rw [zFind, h, Int.toNat_of_nonneg h0, hf]; simp
  have h3 := zFind_mono (k := n.toNat - (i.toNat + 1)) h2 (by omega)
  rw [show i.toNat + 1 + (n.toNat - (i.toNat + 1)) = n.toNat by omega] at h3
  exact h3
theorem zFor {S : Type} (n : Int) (Inv Goal : Int → S → Prop) (step : ∀ i s, 0 ≤ i → i ≤ n → Inv i s → (i < n → ∀ s', Inv (i + 1) s' → Goal (i + 1) s') → Goal i s) (s0 : S) (h0 : 0 ≤ n) (hi : Inv 0 s0) : Goal 0 s0 := by
  have key : ∀ (f : Nat) (i : Int) (s : S), 0 ≤ i → i ≤ n → n - i < f → Inv i s → Goal i s := by
    intro f
    induction f with
    | zero => intro i s a b c; omega
    | succ f ih => intro i s a b c hv; exact step i s a b hv (fun hlt s' hs => ih (i + 1) s' (by omega) (by omega) (by omega) hs)
  exact key (n.toNat + 1) 0 s0 (Int.le_refl 0) h0 (by omega) hi
def cOk (N : zNt) : Prop := (0 ≤ N 0 0 ∧ N 0 0 ≤ 8) ∧ (0 ≤ N 0 1 ∧ N 0 1 ≤ 63) ∧ (1 ≤ N 0 3 ∧ N 0 3 ≤ 20) ∧ (∀ d, d < 8 → (0 ≤ N 1 d ∧ N 1 d ≤ 5) ∧ (0 ≤ N 2 d ∧ N 2 d ≤ 9) ∧ (0 ≤ N 3 d ∧ N 3 d ≤ 3)) ∧ (∀ j, j < 48 → (-1 ≤ N 4 j ∧ N 4 j ≤ 3) ∧ (0 ≤ N 5 j ∧ N 5 j ≤ 20) ∧ (N 4 j = 1 → 1 ≤ N 5 j)) ∧ (∀ s, s < 6 → 0 ≤ N 6 s ∧ N 6 s ≤ 24)
theorem ok_n {N : zNt} (h : cOk N) : 0 ≤ N 0 0 ∧ N 0 0 ≤ 8 := h.1
theorem ok_up {N : zNt} (h : cOk N) : 0 ≤ N 0 1 ∧ N 0 1 ≤ 63 := h.2.1
theorem ok_fr {N : zNt} (h : cOk N) : 1 ≤ N 0 3 ∧ N 0 3 ≤ 20 := h.2.2.1
theorem ok_ld {N : zNt} (h : cOk N) {d : Nat} (hd : d < 8) : 0 ≤ N 1 d ∧ N 1 d ≤ 5 := (h.2.2.2.1 d hd).1
theorem ok_it {N : zNt} (h : cOk N) {d : Nat} (hd : d < 8) : 0 ≤ N 2 d ∧ N 2 d ≤ 9 := (h.2.2.2.1 d hd).2.1
theorem ok_dc {N : zNt} (h : cOk N) {d : Nat} (hd : d < 8) : 0 ≤ N 3 d ∧ N 3 d ≤ 3 := (h.2.2.2.1 d hd).2.2
theorem ok_st {N : zNt} (h : cOk N) {j : Nat} (hj : j < 48) : -1 ≤ N 4 j ∧ N 4 j ≤ 3 := (h.2.2.2.2.1 j hj).1
theorem ok_pt {N : zNt} (h : cOk N) {j : Nat} (hj : j < 48) : 0 ≤ N 5 j ∧ N 5 j ≤ 20 := (h.2.2.2.2.1 j hj).2.1
theorem ok_p1 {N : zNt} (h : cOk N) {j : Nat} (hj : j < 48) : N 4 j = 1 → 1 ≤ N 5 j := (h.2.2.2.2.1 j hj).2.2
theorem ok_ll {N : zNt} (h : cOk N) {s : Nat} (hs : s < 6) : 0 ≤ N 6 s ∧ N 6 s ≤ 24 := h.2.2.2.2.2 s hs
abbrev cHas (N : zNt) (d : Int) : Prop := 0 ≤ d ∧ d < N 0 0
abbrev cUp (N : zNt) (s : Int) : Prop := 0 ≤ s ∧ s < 6 ∧ zAnd (zShr (N 0 1) s) 1 ≠ 0
def cLead (N : zNt) (d : Int) : Int := if cHas N d then N 1 d.toNat else -1
def cDec (N : zNt) (d : Int) : Int := if cHas N d then N 3 d.toNat else -1
def cSt (N : zNt) (d s : Int) : Int := if 0 ≤ d ∧ d < N 0 0 ∧ 0 ≤ s ∧ s < 6 then N 4 (d * 6 + s).toNat else -1
def cPat (N : zNt) (d s : Int) : Int := if cSt N d s = 1 then N 5 (d * 6 + s).toNat else -1
abbrev cEnd (z : Int) : Prop := z = 2 ∨ z = 3
def cEnt (N : zNt) (s : Int) : Int := if 0 ≤ s ∧ s < 6 then N 6 s.toNat else 0
def cEntry (N : zNt) (s i : Int) : Int := if 0 ≤ i ∧ i < cEnt N s then N 7 (s * 24 + i).toNat else -1
def cHeld (N : zNt) (s : Int) : Nat → Int
  | 0 => 0
  | d + 1 => if cSt N d s = 1 then zOr (cHeld N s d) (zShl 1 (N 2 d)) else cHeld N s d
abbrev cCanBegin (N : zNt) (ld mk : Int) : Prop := N 0 0 < 8 ∧ zAnd (N 0 1) (zOr mk (zShl 1 ld)) = zOr mk (zShl 1 ld)
abbrev cCanVote (N : zNt) (d s : Int) : Prop := cUp N s ∧ cSt N d s = 0
abbrev cCanDecide (N : zNt) (d : Int) : Prop := cUp N (cLead N d) ∧ cDec N d = 0
abbrev cCanTell (N : zNt) (d s : Int) : Prop := cUp N s ∧ cUp N (cLead N d) ∧ cSt N d s ≠ -1 ∧ cEnd (cDec N d)
abbrev cCanAsk (N : zNt) (d s o : Int) : Prop := s ≠ o ∧ cUp N s ∧ cUp N o ∧ cSt N d s = 1
def cWrite (N : zNt) (s e : Int) : zNt := if 0 ≤ s ∧ s < 6 ∧ N 6 s.toNat < 24 then up2 (up2 N 7 (s * 24 + N 6 s.toNat).toNat e) 6 s.toNat (N 6 s.toNat + 1) else N
def cEnter0 (N : zNt) (d s v : Int) : zNt := if v = 1 then up2 (up2 N 4 (d * 6 + s).toNat v) 5 (d * 6 + s).toNat (N 0 3) else up2 N 4 (d * 6 + s).toNat v
def cEnter (N : zNt) (d s v : Int) : zNt := if cSt N d s = -1 then N else cWrite (cEnter0 N d s v) s (10 * d + v)
def cSettle (N : zNt) (d v : Int) : zNt := if cHas N d then cWrite (up2 N 3 d.toNat v) (N 1 d.toNat) (10 * d + v + 3) else N
abbrev cHolds (N : zNt) (d s : Int) : Prop := zAny (fun o => decide (o ≠ d ∧ N 2 o.toNat = N 2 d.toNat ∧ cSt N o s = 1)) (N 0 0).toNat = true
def cVoteV (N : zNt) (d s y : Int) : Int := if y ≠ 0 ∧ ¬ cHolds N d s then 1 else 3
def cVoteN (N : zNt) (d s y : Int) : zNt := if cCanVote N d s then cEnter N d s (cVoteV N d s y) else N
def cVoteR (N : zNt) (d s y : Int) : Int := if cCanVote N d s then cVoteV N d s y else -1
abbrev cAll (N : zNt) (d : Int) : Prop := zAny (fun s => decide (cSt N d s ≠ -1 ∧ cSt N d s ≠ 1)) 6 = false
def cDecV (N : zNt) (d : Int) : Int := if cAll N d then 2 else 3
def cDecideN (N : zNt) (d : Int) : zNt := if cCanDecide N d then cSettle N d (cDecV N d) else N
def cDecideR (N : zNt) (d : Int) : Int := if cCanDecide N d then cDecV N d else -1
def cTellN (N : zNt) (d s : Int) : zNt := if cCanTell N d s ∧ (cSt N d s = 1 ∨ cSt N d s = 0 ∧ cDec N d = 3) then cEnter N d s (cDec N d) else N
def cTellR (N : zNt) (d s : Int) : Int := if cCanTell N d s then cSt (cTellN N d s) d s else -1
def cAsk1 (N : zNt) : zNt := up2 N 0 2 (N 0 2 + 1)
def cAsk2 (N : zNt) (d : Int) : zNt := if cDec N d = 0 then cSettle N d 3 else N
def cAsk3 (N : zNt) (d s v : Int) : zNt := if cEnd v then cEnter N d s v else N
def cAsk4 (N : zNt) (d s o : Int) : zNt := if o = cLead N d then cAsk3 (cAsk2 N d) d s (cDec (cAsk2 N d) d) else if cSt N d o = 0 then cEnter (cEnter N d o 3) d s 3 else cAsk3 N d s (cSt N d o)
def cAskN (N : zNt) (d s o : Int) : zNt := if cCanAsk N d s o then cAsk4 (cAsk1 N) d s o else N
def cAskR (N : zNt) (d s o : Int) : Int := if cCanAsk N d s o then cSt (cAskN N d s o) d s else -1
def cSil (N : zNt) (s : Int) : zNt := up2 N 0 1 (zAnd (N 0 1) (zXor (zShl 1 s) (-1)))
def cSilN (N : zNt) (s : Int) : zNt := if cUp N s then cSil N s else N
def cDoubts (N : zNt) (s : Int) : Int := zSum (fun d => if cSt N d s = 1 then 1 else 0) (N 0 0).toNat
def cSilR (N : zNt) (s : Int) : Int := if cUp N s then cDoubts (cSil N s) s else -1
def cWk (N : zNt) (s : Int) : zNt := up2 N 0 1 (zOr (N 0 1) (zShl 1 s))
def cWk1 (N : zNt) (d s : Int) : zNt := if cSt N d s = 0 then cEnter N d s 3 else N
def cWk2 (N : zNt) (d s : Int) : zNt := if cLead N d = s ∧ cDec N d = 0 then cSettle N d 3 else N
def cWkL (N : zNt) (s : Int) : Nat → zNt
  | 0 => N
  | d + 1 => cWk2 (cWk1 (cWkL N s d) d s) d s
abbrev cCanWk (N : zNt) (s : Int) : Prop := (0 ≤ s ∧ s < 6) ∧ ¬ cUp N s
def cWkN (N : zNt) (s : Int) : zNt := if cCanWk N s then cWkL (cWk N s) s (N 0 0).toNat else N
def cWkR (N : zNt) (s : Int) : Int := if cCanWk N s then cEnt (cWkN N s) s - cEnt N s else -1
def cCnt (N : zNt) (v : Int) : Int := zSum (fun d => zSum (fun s => if cSt N d s = v then 1 else 0) 6) (N 0 0).toNat
abbrev cLoseC (N : zNt) (d s : Int) : Prop := cUp N s ∧ cSt N d s = 1
abbrev cLoseP (N : zNt) (d s : Int) : Prop := cLoseC N d s ∧ N 5 (d * 6 + s).toNat - 1 ≤ 0
def cLoseN (N : zNt) (d s : Int) : zNt := if cLoseC N d s then (if N 5 (d * 6 + s).toNat - 1 ≤ 0 then up2 N 5 (d * 6 + s).toNat (N 0 3) else up2 N 5 (d * 6 + s).toNat (N 5 (d * 6 + s).toNat - 1)) else N
def cAskL (N : zNt) (d s : Int) : Nat → zNt
  | 0 => N
  | o + 1 => cAskN (cAskL N d s o) d s o
def cTickS (N : zNt) (d s : Int) : zNt := if cLoseP N d s then cAskL (cLoseN N d s) d s 6 else cLoseN N d s
def cTickL (N : zNt) (d : Int) : Nat → zNt
  | 0 => N
  | s + 1 => cTickS (cTickL N d s) d s
def cTickD (N : zNt) (d : Int) : zNt := cTickL N d 6
def cTickA (N : zNt) : Nat → zNt
  | 0 => N
  | d + 1 => cTickD (cTickA N d) d
def cPassL (N : zNt) : Nat → zNt
  | 0 => N
  | t + 1 => cTickA (cPassL N t) (N 0 0).toNat
def cPassN (N : zNt) (t : Int) : zNt := cPassL N t.toNat
def cPassR (N : zNt) (t : Int) : Int := cCnt (cPassN N t) 2 + cCnt (cPassN N t) 3 - (cCnt N 2 + cCnt N 3)
abbrev cOpen (N : zNt) (d : Int) : Prop := zAny (fun s => decide (cSt N d s = 0 ∨ cSt N d s = 1)) 6 = true
def cOpens (N : zNt) : Int := zSum (fun d => if cOpen N d then 1 else 0) (N 0 0).toNat
abbrev cAns (v : Int) : Prop := v = 0 ∨ cEnd v
def cHelp (N : zNt) (d s : Int) : Int := zFind (fun o => decide ((o = cLead N d ∨ cAns (cSt N d o)) ∧ cCanAsk N d s o)) 6
abbrev cStuck (N : zNt) (d : Int) : Prop := zAny (fun s => decide (cHelp N d s ≠ -1)) 6 = false ∧ zAny (fun s => decide (cUp N s ∧ cSt N d s = 1)) 6 = true
def cStucks (N : zNt) : Int := zSum (fun d => if cStuck N d then 1 else 0) (N 0 0).toNat
def cMems (N : zNt) : Int := N 0 0 * 6 - cCnt N (-1)
def cReas (N : zNt) (d s : Int) : Int := if cSt N d s = -1 then 1 else if ¬ cUp N s then 2 else if cSt N d s ≠ 0 then 3 else if cHolds N d s then 4 else 0
def zH (h : Int64) (v : Int) : Int64 := 31 * h + (iI v).toInt64
def cHsL (N : zNt) (s : Int) (h : Int64) : Nat → Int64
  | 0 => h
  | i + 1 => zH (cHsL N s h i) (cEntry N s i)
def cHs (N : zNt) (h : Int64) (s : Int) : Int64 := cHsL N s (zH (zH (zH h (if cUp N s then 1 else 0)) (cHeld N s (N 0 0).toNat)) (cEnt N s)) (cEnt N s).toNat
def cHdL (N : zNt) (d : Int) (h : Int64) : Nat → Int64
  | 0 => h
  | s + 1 => zH (zH (zH (cHdL N d h s) (cSt N d s)) (cPat N d s)) (cHelp N d s)
def cHd (N : zNt) (h : Int64) (d : Int) : Int64 := cHdL N d (zH (zH h (cLead N d)) (cDec N d)) 6
def cHL1 (N : zNt) (h : Int64) : Nat → Int64
  | 0 => h
  | s + 1 => cHs N (cHL1 N h s) s
def cHL2 (N : zNt) (h : Int64) : Nat → Int64
  | 0 => h
  | d + 1 => cHd N (cHL2 N h d) d
def cHash (N : zNt) : Int64 := cHL2 N (cHL1 N (zH (zH (zH (zH 4431 (N 0 0)) (cOpens N)) (cStucks N)) (N 0 2)) 6) (N 0 0).toNat
/-- bounds of what the reading methods give -/
theorem rg_st {N : zNt} (ok : cOk N) (d s : Int) : -1 ≤ cSt N d s ∧ cSt N d s ≤ 3 := by
  have hn := ok_n ok
  unfold cSt
  split
  · exact ok_st ok (by omega)
  · exact ⟨by decide, by decide⟩
theorem rg_ld {N : zNt} (ok : cOk N) (d : Int) : -1 ≤ cLead N d ∧ cLead N d ≤ 5 := by
  have hn := ok_n ok
  unfold cLead
  split
  · have := ok_ld ok (d := d.toNat) (by omega); omega
  · exact ⟨by decide, by decide⟩
theorem rg_dc {N : zNt} (ok : cOk N) (d : Int) : -1 ≤ cDec N d ∧ cDec N d ≤ 3 := by
  have hn := ok_n ok
  unfold cDec
  split
  · have := ok_dc ok (d := d.toNat) (by omega); omega
  · exact ⟨by decide, by decide⟩
theorem rg_ent {N : zNt} (ok : cOk N) (s : Int) : 0 ≤ cEnt N s ∧ cEnt N s ≤ 24 := by
  unfold cEnt
  split
  · exact ok_ll ok (by omega)
  · exact ⟨by decide, by decide⟩
theorem rg_pat {N : zNt} (ok : cOk N) (d s : Int) : -1 ≤ cPat N d s ∧ cPat N d s ≤ 20 := by
  have hn := ok_n ok
  unfold cPat
  split
  · rename_i h
    unfold cSt at h
    split at h
    · have := ok_pt ok (j := (d * 6 + s).toNat) (by omega); omega
    · exact absurd h (by decide)
  · exact ⟨by decide, by decide⟩
theorem zB_sm {z a b : Int} (h : a ≤ z ∧ z ≤ b) (ha : -2147483648 ≤ a := by decide) (hb : b < 2147483648 := by decide) : zB z := ⟨by omega, by omega⟩
theorem cSt_in {N : zNt} {d s : Int} (h : cSt N d s ≠ -1) : 0 ≤ d ∧ d < N 0 0 ∧ 0 ≤ s ∧ s < 6 := by
  unfold cSt at h
  split at h
  · assumption
  · exact absurd rfl h
end
