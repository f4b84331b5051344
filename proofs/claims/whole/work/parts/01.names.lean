-- ===== PART A: goes FIRST, ahead of the names: the tables' words, and 'selects' of the private methods out of them =====
/-- a private method of a class that the tables say can be made, by its rows of tables_1 -/
def lw_okq (q : MethodName × Nat) : Prop := (q.1.cls ≠ "java/lang/invoke/MethodHandle" ∧ q.1.cls ≠ "java/lang/invoke/VarHandle") ∧ Cond.instantiable q.1.cls q.2 ∈ tables_1 ∧ Cond.privateMethod q.1 ∈ tables_1 ∧ Cond.instanceMethod q.1 ∈ tables_1
theorem lw_p0 : lw_okq (⟨"WarmGossip", "isTale", "(I)Z"⟩, 10) := ⟨⟨by decide +kernel, by decide +kernel⟩, List.mem_of_getElem? (i := 16) (by decide +kernel), List.mem_of_getElem? (i := 398) (by decide +kernel), List.mem_of_getElem? (i := 399) (by decide +kernel)⟩
theorem lw_p1 : lw_okq (⟨"WarmGossip", "startTrial", "()V"⟩, 10) := ⟨⟨by decide +kernel, by decide +kernel⟩, List.mem_of_getElem? (i := 16) (by decide +kernel), List.mem_of_getElem? (i := 528) (by decide +kernel), List.mem_of_getElem? (i := 529) (by decide +kernel)⟩
theorem lw_p2 : lw_okq (⟨"WarmGossip", "triedUntilHeard", "(III)I"⟩, 10) := ⟨⟨by decide +kernel, by decide +kernel⟩, List.mem_of_getElem? (i := 16) (by decide +kernel), List.mem_of_getElem? (i := 548) (by decide +kernel), List.mem_of_getElem? (i := 549) (by decide +kernel)⟩
theorem lw_p3 : lw_okq (⟨"WarmGossip", "triedReach", "(II)I"⟩, 10) := ⟨⟨by decide +kernel, by decide +kernel⟩, List.mem_of_getElem? (i := 16) (by decide +kernel), List.mem_of_getElem? (i := 569) (by decide +kernel), List.mem_of_getElem? (i := 570) (by decide +kernel)⟩
theorem lw_p4 : lw_okq (⟨"WarmGossip", "triedHeat", "(III)I"⟩, 10) := ⟨⟨by decide +kernel, by decide +kernel⟩, List.mem_of_getElem? (i := 16) (by decide +kernel), List.mem_of_getElem? (i := 582) (by decide +kernel), List.mem_of_getElem? (i := 583) (by decide +kernel)⟩
theorem lw_p5 : lw_okq (⟨"WarmGossip", "goesAsTold", "(IILWarmGossip$Sheet;)Z"⟩, 10) := ⟨⟨by decide +kernel, by decide +kernel⟩, List.mem_of_getElem? (i := 16) (by decide +kernel), List.mem_of_getElem? (i := 609) (by decide +kernel), List.mem_of_getElem? (i := 610) (by decide +kernel)⟩
theorem lw_p6 : lw_okq (⟨"WarmGossip", "triedRowPart", "(II)I"⟩, 10) := ⟨⟨by decide +kernel, by decide +kernel⟩, List.mem_of_getElem? (i := 16) (by decide +kernel), List.mem_of_getElem? (i := 639) (by decide +kernel), List.mem_of_getElem? (i := 640) (by decide +kernel)⟩
theorem lw_p7 : lw_okq (⟨"WarmGossip", "isInRows", "(II)Z"⟩, 10) := ⟨⟨by decide +kernel, by decide +kernel⟩, List.mem_of_getElem? (i := 16) (by decide +kernel), List.mem_of_getElem? (i := 647) (by decide +kernel), List.mem_of_getElem? (i := 648) (by decide +kernel)⟩
theorem lw_p8 : lw_okq (⟨"WarmGossip", "holdsTale", "(LWarmGossip$Shelf;)Z"⟩, 10) := ⟨⟨by decide +kernel, by decide +kernel⟩, List.mem_of_getElem? (i := 16) (by decide +kernel), List.mem_of_getElem? (i := 712) (by decide +kernel), List.mem_of_getElem? (i := 713) (by decide +kernel)⟩
theorem lw_p9 : lw_okq (⟨"WarmGossip$Doing", "ask", "(III)I"⟩, 6) := ⟨⟨by decide +kernel, by decide +kernel⟩, List.mem_of_getElem? (i := 155) (by decide +kernel), List.mem_of_getElem? (i := 733) (by decide +kernel), List.mem_of_getElem? (i := 734) (by decide +kernel)⟩
theorem lw_p10 : lw_okq (⟨"WarmGossip$Doing", "run", "(III)I"⟩, 6) := ⟨⟨by decide +kernel, by decide +kernel⟩, List.mem_of_getElem? (i := 155) (by decide +kernel), List.mem_of_getElem? (i := 739) (by decide +kernel), List.mem_of_getElem? (i := 740) (by decide +kernel)⟩
theorem lw_p11 : lw_okq (⟨"WarmGossip$Doing", "note", "(I)V"⟩, 6) := ⟨⟨by decide +kernel, by decide +kernel⟩, List.mem_of_getElem? (i := 155) (by decide +kernel), List.mem_of_getElem? (i := 743) (by decide +kernel), List.mem_of_getElem? (i := 744) (by decide +kernel)⟩
theorem lw_p12 : lw_okq (⟨"WarmGossip$Doing", "quotient", "(II)I"⟩, 6) := ⟨⟨by decide +kernel, by decide +kernel⟩, List.mem_of_getElem? (i := 155) (by decide +kernel), List.mem_of_getElem? (i := 747) (by decide +kernel), List.mem_of_getElem? (i := 748) (by decide +kernel)⟩
theorem lw_p13 : lw_okq (⟨"WarmGossipModel", "begins", "()V"⟩, 26) := ⟨⟨by decide +kernel, by decide +kernel⟩, List.mem_of_getElem? (i := 767) (by decide +kernel), List.mem_of_getElem? (i := 773) (by decide +kernel), List.mem_of_getElem? (i := 774) (by decide +kernel)⟩
theorem lw_p14 : lw_okq (⟨"WarmGossipModel", "nextToken", "()V"⟩, 26) := ⟨⟨by decide +kernel, by decide +kernel⟩, List.mem_of_getElem? (i := 767) (by decide +kernel), List.mem_of_getElem? (i := 872) (by decide +kernel), List.mem_of_getElem? (i := 873) (by decide +kernel)⟩
theorem lw_p15 : lw_okq (⟨"WarmGossipModel", "byteAt", "(I)I"⟩, 26) := ⟨⟨by decide +kernel, by decide +kernel⟩, List.mem_of_getElem? (i := 767) (by decide +kernel), List.mem_of_getElem? (i := 876) (by decide +kernel), List.mem_of_getElem? (i := 877) (by decide +kernel)⟩
def lw_privs_1 : List (MethodName × Nat) := [(⟨"WarmGossip", "isTale", "(I)Z"⟩, 10), (⟨"WarmGossip", "startTrial", "()V"⟩, 10), (⟨"WarmGossip", "triedUntilHeard", "(III)I"⟩, 10), (⟨"WarmGossip", "triedReach", "(II)I"⟩, 10), (⟨"WarmGossip", "triedHeat", "(III)I"⟩, 10), (⟨"WarmGossip", "goesAsTold", "(IILWarmGossip$Sheet;)Z"⟩, 10), (⟨"WarmGossip", "triedRowPart", "(II)I"⟩, 10), (⟨"WarmGossip", "isInRows", "(II)Z"⟩, 10), (⟨"WarmGossip", "holdsTale", "(LWarmGossip$Shelf;)Z"⟩, 10), (⟨"WarmGossip$Doing", "ask", "(III)I"⟩, 6), (⟨"WarmGossip$Doing", "run", "(III)I"⟩, 6), (⟨"WarmGossip$Doing", "note", "(I)V"⟩, 6), (⟨"WarmGossip$Doing", "quotient", "(II)I"⟩, 6), (⟨"WarmGossipModel", "begins", "()V"⟩, 26), (⟨"WarmGossipModel", "nextToken", "()V"⟩, 26), (⟨"WarmGossipModel", "byteAt", "(I)I"⟩, 26)]
theorem lw_r1 : ∀ q ∈ lw_privs_1, lw_okq q := List.forall_mem_cons.mpr ⟨lw_p0, List.forall_mem_cons.mpr ⟨lw_p1, List.forall_mem_cons.mpr ⟨lw_p2, List.forall_mem_cons.mpr ⟨lw_p3, List.forall_mem_cons.mpr ⟨lw_p4, List.forall_mem_cons.mpr ⟨lw_p5, List.forall_mem_cons.mpr ⟨lw_p6, List.forall_mem_cons.mpr ⟨lw_p7, List.forall_mem_cons.mpr ⟨lw_p8, List.forall_mem_cons.mpr ⟨lw_p9, List.forall_mem_cons.mpr ⟨lw_p10, List.forall_mem_cons.mpr ⟨lw_p11, List.forall_mem_cons.mpr ⟨lw_p12, List.forall_mem_cons.mpr ⟨lw_p13, List.forall_mem_cons.mpr ⟨lw_p14, List.forall_mem_cons.mpr ⟨lw_p15, fun _ h => absurd h List.not_mem_nil⟩⟩⟩⟩⟩⟩⟩⟩⟩⟩⟩⟩⟩⟩⟩⟩
theorem lw_p16 : lw_okq (⟨"WarmGossipModel", "itemHere", "()V"⟩, 26) := ⟨⟨by decide +kernel, by decide +kernel⟩, List.mem_of_getElem? (i := 767) (by decide +kernel), List.mem_of_getElem? (i := 886) (by decide +kernel), List.mem_of_getElem? (i := 887) (by decide +kernel)⟩
theorem lw_p17 : lw_okq (⟨"WarmGossipModel", "kindHere", "()I"⟩, 26) := ⟨⟨by decide +kernel, by decide +kernel⟩, List.mem_of_getElem? (i := 767) (by decide +kernel), List.mem_of_getElem? (i := 890) (by decide +kernel), List.mem_of_getElem? (i := 891) (by decide +kernel)⟩
theorem lw_p18 : lw_okq (⟨"WarmGossipModel", "isFour", "(IIII)Z"⟩, 26) := ⟨⟨by decide +kernel, by decide +kernel⟩, List.mem_of_getElem? (i := 767) (by decide +kernel), List.mem_of_getElem? (i := 894) (by decide +kernel), List.mem_of_getElem? (i := 895) (by decide +kernel)⟩
theorem lw_p19 : lw_okq (⟨"WarmGossipModel", "isName", "(IIIII)Z"⟩, 26) := ⟨⟨by decide +kernel, by decide +kernel⟩, List.mem_of_getElem? (i := 767) (by decide +kernel), List.mem_of_getElem? (i := 898) (by decide +kernel), List.mem_of_getElem? (i := 899) (by decide +kernel)⟩
theorem lw_p20 : lw_okq (⟨"WarmGossipModel", "isSame", "(IIII)Z"⟩, 26) := ⟨⟨by decide +kernel, by decide +kernel⟩, List.mem_of_getElem? (i := 767) (by decide +kernel), List.mem_of_getElem? (i := 902) (by decide +kernel), List.mem_of_getElem? (i := 903) (by decide +kernel)⟩
theorem lw_p21 : lw_okq (⟨"WarmGossipModel", "isFive", "(IIIII)Z"⟩, 26) := ⟨⟨by decide +kernel, by decide +kernel⟩, List.mem_of_getElem? (i := 767) (by decide +kernel), List.mem_of_getElem? (i := 906) (by decide +kernel), List.mem_of_getElem? (i := 907) (by decide +kernel)⟩
theorem lw_p22 : lw_okq (⟨"WarmGossipModel", "lawHere", "()I"⟩, 26) := ⟨⟨by decide +kernel, by decide +kernel⟩, List.mem_of_getElem? (i := 767) (by decide +kernel), List.mem_of_getElem? (i := 910) (by decide +kernel), List.mem_of_getElem? (i := 911) (by decide +kernel)⟩
theorem lw_p23 : lw_okq (⟨"WarmGossipModel", "taleHere", "(I)V"⟩, 26) := ⟨⟨by decide +kernel, by decide +kernel⟩, List.mem_of_getElem? (i := 767) (by decide +kernel), List.mem_of_getElem? (i := 914) (by decide +kernel), List.mem_of_getElem? (i := 915) (by decide +kernel)⟩
theorem lw_p24 : lw_okq (⟨"WarmGossipModel", "needs", "(Z)V"⟩, 26) := ⟨⟨by decide +kernel, by decide +kernel⟩, List.mem_of_getElem? (i := 767) (by decide +kernel), List.mem_of_getElem? (i := 918) (by decide +kernel), List.mem_of_getElem? (i := 919) (by decide +kernel)⟩
theorem lw_p25 : lw_okq (⟨"WarmGossipModel", "isTwo", "(II)Z"⟩, 26) := ⟨⟨by decide +kernel, by decide +kernel⟩, List.mem_of_getElem? (i := 767) (by decide +kernel), List.mem_of_getElem? (i := 922) (by decide +kernel), List.mem_of_getElem? (i := 923) (by decide +kernel)⟩
theorem lw_p26 : lw_okq (⟨"WarmGossipModel", "arrives", "(III)V"⟩, 26) := ⟨⟨by decide +kernel, by decide +kernel⟩, List.mem_of_getElem? (i := 767) (by decide +kernel), List.mem_of_getElem? (i := 926) (by decide +kernel), List.mem_of_getElem? (i := 927) (by decide +kernel)⟩
theorem lw_p27 : lw_okq (⟨"WarmGossipModel", "numberTo", "(II)V"⟩, 26) := ⟨⟨by decide +kernel, by decide +kernel⟩, List.mem_of_getElem? (i := 767) (by decide +kernel), List.mem_of_getElem? (i := 930) (by decide +kernel), List.mem_of_getElem? (i := 931) (by decide +kernel)⟩
theorem lw_p28 : lw_okq (⟨"WarmGossipModel", "ofHouse", "(II)V"⟩, 26) := ⟨⟨by decide +kernel, by decide +kernel⟩, List.mem_of_getElem? (i := 767) (by decide +kernel), List.mem_of_getElem? (i := 937) (by decide +kernel), List.mem_of_getElem? (i := 938) (by decide +kernel)⟩
theorem lw_p29 : lw_okq (⟨"WarmGossipModel", "boxHere", "()V"⟩, 26) := ⟨⟨by decide +kernel, by decide +kernel⟩, List.mem_of_getElem? (i := 767) (by decide +kernel), List.mem_of_getElem? (i := 941) (by decide +kernel), List.mem_of_getElem? (i := 942) (by decide +kernel)⟩
theorem lw_p30 : lw_okq (⟨"WarmGossipModel", "becomes", "(II)I"⟩, 26) := ⟨⟨by decide +kernel, by decide +kernel⟩, List.mem_of_getElem? (i := 767) (by decide +kernel), List.mem_of_getElem? (i := 950) (by decide +kernel), List.mem_of_getElem? (i := 951) (by decide +kernel)⟩
theorem lw_p31 : lw_okq (⟨"WarmGossipModel", "isOne", "(I)Z"⟩, 26) := ⟨⟨by decide +kernel, by decide +kernel⟩, List.mem_of_getElem? (i := 767) (by decide +kernel), List.mem_of_getElem? (i := 971) (by decide +kernel), List.mem_of_getElem? (i := 972) (by decide +kernel)⟩
def lw_privs_2 : List (MethodName × Nat) := [(⟨"WarmGossipModel", "itemHere", "()V"⟩, 26), (⟨"WarmGossipModel", "kindHere", "()I"⟩, 26), (⟨"WarmGossipModel", "isFour", "(IIII)Z"⟩, 26), (⟨"WarmGossipModel", "isName", "(IIIII)Z"⟩, 26), (⟨"WarmGossipModel", "isSame", "(IIII)Z"⟩, 26), (⟨"WarmGossipModel", "isFive", "(IIIII)Z"⟩, 26), (⟨"WarmGossipModel", "lawHere", "()I"⟩, 26), (⟨"WarmGossipModel", "taleHere", "(I)V"⟩, 26), (⟨"WarmGossipModel", "needs", "(Z)V"⟩, 26), (⟨"WarmGossipModel", "isTwo", "(II)Z"⟩, 26), (⟨"WarmGossipModel", "arrives", "(III)V"⟩, 26), (⟨"WarmGossipModel", "numberTo", "(II)V"⟩, 26), (⟨"WarmGossipModel", "ofHouse", "(II)V"⟩, 26), (⟨"WarmGossipModel", "boxHere", "()V"⟩, 26), (⟨"WarmGossipModel", "becomes", "(II)I"⟩, 26), (⟨"WarmGossipModel", "isOne", "(I)Z"⟩, 26)]
theorem lw_r2 : ∀ q ∈ lw_privs_2, lw_okq q := List.forall_mem_cons.mpr ⟨lw_p16, List.forall_mem_cons.mpr ⟨lw_p17, List.forall_mem_cons.mpr ⟨lw_p18, List.forall_mem_cons.mpr ⟨lw_p19, List.forall_mem_cons.mpr ⟨lw_p20, List.forall_mem_cons.mpr ⟨lw_p21, List.forall_mem_cons.mpr ⟨lw_p22, List.forall_mem_cons.mpr ⟨lw_p23, List.forall_mem_cons.mpr ⟨lw_p24, List.forall_mem_cons.mpr ⟨lw_p25, List.forall_mem_cons.mpr ⟨lw_p26, List.forall_mem_cons.mpr ⟨lw_p27, List.forall_mem_cons.mpr ⟨lw_p28, List.forall_mem_cons.mpr ⟨lw_p29, List.forall_mem_cons.mpr ⟨lw_p30, List.forall_mem_cons.mpr ⟨lw_p31, fun _ h => absurd h List.not_mem_nil⟩⟩⟩⟩⟩⟩⟩⟩⟩⟩⟩⟩⟩⟩⟩⟩
theorem lw_p32 : lw_okq (⟨"WarmGossipModel", "its", "(II)I"⟩, 26) := ⟨⟨by decide +kernel, by decide +kernel⟩, List.mem_of_getElem? (i := 767) (by decide +kernel), List.mem_of_getElem? (i := 975) (by decide +kernel), List.mem_of_getElem? (i := 976) (by decide +kernel)⟩
theorem lw_p33 : lw_okq (⟨"WarmGossipModel", "cools", "(I)I"⟩, 26) := ⟨⟨by decide +kernel, by decide +kernel⟩, List.mem_of_getElem? (i := 767) (by decide +kernel), List.mem_of_getElem? (i := 983) (by decide +kernel), List.mem_of_getElem? (i := 984) (by decide +kernel)⟩
theorem lw_p34 : lw_okq (⟨"WarmGossipModel", "doors", "(I)I"⟩, 26) := ⟨⟨by decide +kernel, by decide +kernel⟩, List.mem_of_getElem? (i := 767) (by decide +kernel), List.mem_of_getElem? (i := 990) (by decide +kernel), List.mem_of_getElem? (i := 991) (by decide +kernel)⟩
theorem lw_p35 : lw_okq (⟨"WarmGossipModel", "reaches", "(II)V"⟩, 26) := ⟨⟨by decide +kernel, by decide +kernel⟩, List.mem_of_getElem? (i := 767) (by decide +kernel), List.mem_of_getElem? (i := 1006) (by decide +kernel), List.mem_of_getElem? (i := 1007) (by decide +kernel)⟩
theorem lw_p36 : lw_okq (⟨"WarmGossipModel", "talesAt", "(I)I"⟩, 26) := ⟨⟨by decide +kernel, by decide +kernel⟩, List.mem_of_getElem? (i := 767) (by decide +kernel), List.mem_of_getElem? (i := 1020) (by decide +kernel), List.mem_of_getElem? (i := 1021) (by decide +kernel)⟩
theorem lw_p37 : lw_okq (⟨"WarmGossipModel", "loopOf", "(I)I"⟩, 26) := ⟨⟨by decide +kernel, by decide +kernel⟩, List.mem_of_getElem? (i := 767) (by decide +kernel), List.mem_of_getElem? (i := 1024) (by decide +kernel), List.mem_of_getElem? (i := 1025) (by decide +kernel)⟩
theorem lw_p38 : lw_okq (⟨"WarmGossipModel", "talesHeardBy", "(I)I"⟩, 26) := ⟨⟨by decide +kernel, by decide +kernel⟩, List.mem_of_getElem? (i := 767) (by decide +kernel), List.mem_of_getElem? (i := 1028) (by decide +kernel), List.mem_of_getElem? (i := 1029) (by decide +kernel)⟩
theorem lw_p39 : lw_okq (⟨"WarmGossipModel", "goes", "(I)V"⟩, 26) := ⟨⟨by decide +kernel, by decide +kernel⟩, List.mem_of_getElem? (i := 767) (by decide +kernel), List.mem_of_getElem? (i := 1037) (by decide +kernel), List.mem_of_getElem? (i := 1038) (by decide +kernel)⟩
theorem lw_p40 : lw_okq (⟨"WarmGossipModel", "goesOn", "()V"⟩, 26) := ⟨⟨by decide +kernel, by decide +kernel⟩, List.mem_of_getElem? (i := 767) (by decide +kernel), List.mem_of_getElem? (i := 1041) (by decide +kernel), List.mem_of_getElem? (i := 1042) (by decide +kernel)⟩
theorem lw_p41 : lw_okq (⟨"WarmGossipModel", "heatOfAll", "()I"⟩, 26) := ⟨⟨by decide +kernel, by decide +kernel⟩, List.mem_of_getElem? (i := 767) (by decide +kernel), List.mem_of_getElem? (i := 1048) (by decide +kernel), List.mem_of_getElem? (i := 1049) (by decide +kernel)⟩
theorem lw_p42 : lw_okq (⟨"WarmGossipModel", "drawn", "()I"⟩, 26) := ⟨⟨by decide +kernel, by decide +kernel⟩, List.mem_of_getElem? (i := 767) (by decide +kernel), List.mem_of_getElem? (i := 1060) (by decide +kernel), List.mem_of_getElem? (i := 1061) (by decide +kernel)⟩
theorem lw_p43 : lw_okq (⟨"WarmGossipModel", "heardOfAll", "()I"⟩, 26) := ⟨⟨by decide +kernel, by decide +kernel⟩, List.mem_of_getElem? (i := 767) (by decide +kernel), List.mem_of_getElem? (i := 1070) (by decide +kernel), List.mem_of_getElem? (i := 1071) (by decide +kernel)⟩
theorem lw_p44 : lw_okq (⟨"WarmGossipModel", "housesInUse", "()I"⟩, 26) := ⟨⟨by decide +kernel, by decide +kernel⟩, List.mem_of_getElem? (i := 767) (by decide +kernel), List.mem_of_getElem? (i := 1079) (by decide +kernel), List.mem_of_getElem? (i := 1080) (by decide +kernel)⟩
theorem lw_p45 : lw_okq (⟨"WarmGossipModel", "boxes", "()I"⟩, 26) := ⟨⟨by decide +kernel, by decide +kernel⟩, List.mem_of_getElem? (i := 767) (by decide +kernel), List.mem_of_getElem? (i := 1083) (by decide +kernel), List.mem_of_getElem? (i := 1084) (by decide +kernel)⟩
theorem lw_p46 : lw_okq (⟨"WarmGossipModel", "coldOnes", "()I"⟩, 26) := ⟨⟨by decide +kernel, by decide +kernel⟩, List.mem_of_getElem? (i := 767) (by decide +kernel), List.mem_of_getElem? (i := 1087) (by decide +kernel), List.mem_of_getElem? (i := 1088) (by decide +kernel)⟩
theorem lw_p47 : lw_okq (⟨"WarmGossipModel", "heardBy", "(III)I"⟩, 26) := ⟨⟨by decide +kernel, by decide +kernel⟩, List.mem_of_getElem? (i := 767) (by decide +kernel), List.mem_of_getElem? (i := 1099) (by decide +kernel), List.mem_of_getElem? (i := 1100) (by decide +kernel)⟩
def lw_privs_3 : List (MethodName × Nat) := [(⟨"WarmGossipModel", "its", "(II)I"⟩, 26), (⟨"WarmGossipModel", "cools", "(I)I"⟩, 26), (⟨"WarmGossipModel", "doors", "(I)I"⟩, 26), (⟨"WarmGossipModel", "reaches", "(II)V"⟩, 26), (⟨"WarmGossipModel", "talesAt", "(I)I"⟩, 26), (⟨"WarmGossipModel", "loopOf", "(I)I"⟩, 26), (⟨"WarmGossipModel", "talesHeardBy", "(I)I"⟩, 26), (⟨"WarmGossipModel", "goes", "(I)V"⟩, 26), (⟨"WarmGossipModel", "goesOn", "()V"⟩, 26), (⟨"WarmGossipModel", "heatOfAll", "()I"⟩, 26), (⟨"WarmGossipModel", "drawn", "()I"⟩, 26), (⟨"WarmGossipModel", "heardOfAll", "()I"⟩, 26), (⟨"WarmGossipModel", "housesInUse", "()I"⟩, 26), (⟨"WarmGossipModel", "boxes", "()I"⟩, 26), (⟨"WarmGossipModel", "coldOnes", "()I"⟩, 26), (⟨"WarmGossipModel", "heardBy", "(III)I"⟩, 26)]
theorem lw_r3 : ∀ q ∈ lw_privs_3, lw_okq q := List.forall_mem_cons.mpr ⟨lw_p32, List.forall_mem_cons.mpr ⟨lw_p33, List.forall_mem_cons.mpr ⟨lw_p34, List.forall_mem_cons.mpr ⟨lw_p35, List.forall_mem_cons.mpr ⟨lw_p36, List.forall_mem_cons.mpr ⟨lw_p37, List.forall_mem_cons.mpr ⟨lw_p38, List.forall_mem_cons.mpr ⟨lw_p39, List.forall_mem_cons.mpr ⟨lw_p40, List.forall_mem_cons.mpr ⟨lw_p41, List.forall_mem_cons.mpr ⟨lw_p42, List.forall_mem_cons.mpr ⟨lw_p43, List.forall_mem_cons.mpr ⟨lw_p44, List.forall_mem_cons.mpr ⟨lw_p45, List.forall_mem_cons.mpr ⟨lw_p46, List.forall_mem_cons.mpr ⟨lw_p47, fun _ h => absurd h List.not_mem_nil⟩⟩⟩⟩⟩⟩⟩⟩⟩⟩⟩⟩⟩⟩⟩⟩
theorem lw_p48 : lw_okq (⟨"WarmGossipModel", "reachBy", "(II)I"⟩, 26) := ⟨⟨by decide +kernel, by decide +kernel⟩, List.mem_of_getElem? (i := 767) (by decide +kernel), List.mem_of_getElem? (i := 1119) (by decide +kernel), List.mem_of_getElem? (i := 1120) (by decide +kernel)⟩
theorem lw_p49 : lw_okq (⟨"WarmGossipModel", "farthestBy", "(IIII)I"⟩, 26) := ⟨⟨by decide +kernel, by decide +kernel⟩, List.mem_of_getElem? (i := 767) (by decide +kernel), List.mem_of_getElem? (i := 1130) (by decide +kernel), List.mem_of_getElem? (i := 1131) (by decide +kernel)⟩
theorem lw_p50 : lw_okq (⟨"WarmGossipModel", "heatBehind", "(II)I"⟩, 26) := ⟨⟨by decide +kernel, by decide +kernel⟩, List.mem_of_getElem? (i := 767) (by decide +kernel), List.mem_of_getElem? (i := 1145) (by decide +kernel), List.mem_of_getElem? (i := 1146) (by decide +kernel)⟩
theorem lw_p51 : lw_okq (⟨"WarmGossipModel", "laysBoxes", "(I)V"⟩, 26) := ⟨⟨by decide +kernel, by decide +kernel⟩, List.mem_of_getElem? (i := 767) (by decide +kernel), List.mem_of_getElem? (i := 1158) (by decide +kernel), List.mem_of_getElem? (i := 1159) (by decide +kernel)⟩
theorem lw_p52 : lw_okq (⟨"WarmGossipModel", "isTold", "(II)Z"⟩, 26) := ⟨⟨by decide +kernel, by decide +kernel⟩, List.mem_of_getElem? (i := 767) (by decide +kernel), List.mem_of_getElem? (i := 1169) (by decide +kernel), List.mem_of_getElem? (i := 1170) (by decide +kernel)⟩
theorem lw_p53 : lw_okq (⟨"WarmGossipModel", "isRow", "(II)Z"⟩, 26) := ⟨⟨by decide +kernel, by decide +kernel⟩, List.mem_of_getElem? (i := 767) (by decide +kernel), List.mem_of_getElem? (i := 1198) (by decide +kernel), List.mem_of_getElem? (i := 1199) (by decide +kernel)⟩
theorem lw_p54 : lw_okq (⟨"WarmGossipModel", "lacks", "(II)I"⟩, 26) := ⟨⟨by decide +kernel, by decide +kernel⟩, List.mem_of_getElem? (i := 767) (by decide +kernel), List.mem_of_getElem? (i := 1222) (by decide +kernel), List.mem_of_getElem? (i := 1223) (by decide +kernel)⟩
theorem lw_p55 : lw_okq (⟨"WarmGossipModel", "heldOn", "(I)I"⟩, 26) := ⟨⟨by decide +kernel, by decide +kernel⟩, List.mem_of_getElem? (i := 767) (by decide +kernel), List.mem_of_getElem? (i := 1244) (by decide +kernel), List.mem_of_getElem? (i := 1245) (by decide +kernel)⟩
theorem lw_p56 : lw_okq (⟨"WarmGossipModel", "steams", "(I)I"⟩, 26) := ⟨⟨by decide +kernel, by decide +kernel⟩, List.mem_of_getElem? (i := 767) (by decide +kernel), List.mem_of_getElem? (i := 1255) (by decide +kernel), List.mem_of_getElem? (i := 1256) (by decide +kernel)⟩
theorem lw_p57 : lw_okq (⟨"WarmGossipModel", "steamsOfRumour", "(I)I"⟩, 26) := ⟨⟨by decide +kernel, by decide +kernel⟩, List.mem_of_getElem? (i := 767) (by decide +kernel), List.mem_of_getElem? (i := 1259) (by decide +kernel), List.mem_of_getElem? (i := 1260) (by decide +kernel)⟩
theorem lw_p58 : lw_okq (⟨"WarmGossipModel", "runs", "(I)V"⟩, 26) := ⟨⟨by decide +kernel, by decide +kernel⟩, List.mem_of_getElem? (i := 767) (by decide +kernel), List.mem_of_getElem? (i := 1263) (by decide +kernel), List.mem_of_getElem? (i := 1264) (by decide +kernel)⟩
theorem lw_p59 : lw_okq (⟨"WarmGossipModel", "steamsPlain", "(I)I"⟩, 26) := ⟨⟨by decide +kernel, by decide +kernel⟩, List.mem_of_getElem? (i := 767) (by decide +kernel), List.mem_of_getElem? (i := 1267) (by decide +kernel), List.mem_of_getElem? (i := 1268) (by decide +kernel)⟩
theorem lw_p60 : lw_okq (⟨"WarmGossipModel", "smells", "(I)I"⟩, 26) := ⟨⟨by decide +kernel, by decide +kernel⟩, List.mem_of_getElem? (i := 767) (by decide +kernel), List.mem_of_getElem? (i := 1271) (by decide +kernel), List.mem_of_getElem? (i := 1272) (by decide +kernel)⟩
theorem lw_p61 : lw_okq (⟨"WarmGossipModel", "smellsPlain", "(I)I"⟩, 26) := ⟨⟨by decide +kernel, by decide +kernel⟩, List.mem_of_getElem? (i := 767) (by decide +kernel), List.mem_of_getElem? (i := 1275) (by decide +kernel), List.mem_of_getElem? (i := 1276) (by decide +kernel)⟩
theorem lw_p62 : lw_okq (⟨"WarmGossipModel", "parts", "(I)I"⟩, 26) := ⟨⟨by decide +kernel, by decide +kernel⟩, List.mem_of_getElem? (i := 767) (by decide +kernel), List.mem_of_getElem? (i := 1279) (by decide +kernel), List.mem_of_getElem? (i := 1280) (by decide +kernel)⟩
theorem lw_p63 : lw_okq (⟨"WarmGossipModel", "partsPlain", "(I)I"⟩, 26) := ⟨⟨by decide +kernel, by decide +kernel⟩, List.mem_of_getElem? (i := 767) (by decide +kernel), List.mem_of_getElem? (i := 1283) (by decide +kernel), List.mem_of_getElem? (i := 1284) (by decide +kernel)⟩
def lw_privs_4 : List (MethodName × Nat) := [(⟨"WarmGossipModel", "reachBy", "(II)I"⟩, 26), (⟨"WarmGossipModel", "farthestBy", "(IIII)I"⟩, 26), (⟨"WarmGossipModel", "heatBehind", "(II)I"⟩, 26), (⟨"WarmGossipModel", "laysBoxes", "(I)V"⟩, 26), (⟨"WarmGossipModel", "isTold", "(II)Z"⟩, 26), (⟨"WarmGossipModel", "isRow", "(II)Z"⟩, 26), (⟨"WarmGossipModel", "lacks", "(II)I"⟩, 26), (⟨"WarmGossipModel", "heldOn", "(I)I"⟩, 26), (⟨"WarmGossipModel", "steams", "(I)I"⟩, 26), (⟨"WarmGossipModel", "steamsOfRumour", "(I)I"⟩, 26), (⟨"WarmGossipModel", "runs", "(I)V"⟩, 26), (⟨"WarmGossipModel", "steamsPlain", "(I)I"⟩, 26), (⟨"WarmGossipModel", "smells", "(I)I"⟩, 26), (⟨"WarmGossipModel", "smellsPlain", "(I)I"⟩, 26), (⟨"WarmGossipModel", "parts", "(I)I"⟩, 26), (⟨"WarmGossipModel", "partsPlain", "(I)I"⟩, 26)]
theorem lw_r4 : ∀ q ∈ lw_privs_4, lw_okq q := List.forall_mem_cons.mpr ⟨lw_p48, List.forall_mem_cons.mpr ⟨lw_p49, List.forall_mem_cons.mpr ⟨lw_p50, List.forall_mem_cons.mpr ⟨lw_p51, List.forall_mem_cons.mpr ⟨lw_p52, List.forall_mem_cons.mpr ⟨lw_p53, List.forall_mem_cons.mpr ⟨lw_p54, List.forall_mem_cons.mpr ⟨lw_p55, List.forall_mem_cons.mpr ⟨lw_p56, List.forall_mem_cons.mpr ⟨lw_p57, List.forall_mem_cons.mpr ⟨lw_p58, List.forall_mem_cons.mpr ⟨lw_p59, List.forall_mem_cons.mpr ⟨lw_p60, List.forall_mem_cons.mpr ⟨lw_p61, List.forall_mem_cons.mpr ⟨lw_p62, List.forall_mem_cons.mpr ⟨lw_p63, fun _ h => absurd h List.not_mem_nil⟩⟩⟩⟩⟩⟩⟩⟩⟩⟩⟩⟩⟩⟩⟩⟩
theorem lw_p64 : lw_okq (⟨"WarmGossipModel", "burns", "(I)I"⟩, 26) := ⟨⟨by decide +kernel, by decide +kernel⟩, List.mem_of_getElem? (i := 767) (by decide +kernel), List.mem_of_getElem? (i := 1287) (by decide +kernel), List.mem_of_getElem? (i := 1288) (by decide +kernel)⟩
theorem lw_p65 : lw_okq (⟨"WarmGossipModel", "burnsPlain", "(I)I"⟩, 26) := ⟨⟨by decide +kernel, by decide +kernel⟩, List.mem_of_getElem? (i := 767) (by decide +kernel), List.mem_of_getElem? (i := 1291) (by decide +kernel), List.mem_of_getElem? (i := 1292) (by decide +kernel)⟩
def lw_privs_5 : List (MethodName × Nat) := [(⟨"WarmGossipModel", "burns", "(I)I"⟩, 26), (⟨"WarmGossipModel", "burnsPlain", "(I)I"⟩, 26)]
theorem lw_r5 : ∀ q ∈ lw_privs_5, lw_okq q := List.forall_mem_cons.mpr ⟨lw_p64, List.forall_mem_cons.mpr ⟨lw_p65, fun _ h => absurd h List.not_mem_nil⟩⟩
def lw_privs : List (MethodName × Nat) := lw_privs_1 ++ (lw_privs_2 ++ (lw_privs_3 ++ (lw_privs_4 ++ (lw_privs_5))))
def lw_tbl : List Cond := k2_sels lw_privs ++ tables_1
theorem lw_privs_ok : ∀ q ∈ lw_privs, lw_okq q := by
  show ∀ q ∈ lw_privs_1 ++ (lw_privs_2 ++ (lw_privs_3 ++ (lw_privs_4 ++ (lw_privs_5)))), lw_okq q
  exact List.forall_mem_append.mpr ⟨lw_r1, List.forall_mem_append.mpr ⟨lw_r2, List.forall_mem_append.mpr ⟨lw_r3, List.forall_mem_append.mpr ⟨lw_r4, lw_r5⟩⟩⟩⟩
def RX0 : String := "WarmGossip$Doing"
def TX0 : u_T := fun k => match k with
  | 0 => ("WarmGossip$Doing", "bodies", "[I", true)
  | 1 => ("WarmGossip$Doing", "count", "I", false)
  | 2 => ("WarmGossip$Doing", "kind", "I", false)
  | 3 => ("WarmGossip$Doing", "number", "I", false)
  | 4 => ("WarmGossip$Doing", "house", "I", false)
  | _ => ("WarmGossip$Doing", "parted0", "Z", false)
def tyX0 : Nat → FieldType := fun k => match k with
  | 0 => .array .int
  | 1 => .int
  | 2 => .int
  | 3 => .int
  | 4 => .int
  | _ => .boolean
abbrev wsX00 : List Cond := u_ws RX0 TX0 6
theorem nmX0 : ∀ a, a < 6 → ∀ b, b < 6 → a ≠ b → (TX0 a).2.1 ≠ (TX0 b).2.1 := by decide +kernel
theorem tyX0_ok : ∀ k, k < 6 → parseFieldDescriptor (TX0 k).2.2.1 = some (tyX0 k) := by decide +kernel
abbrev cX0_init : ByteArray := prog_2_method_1_code
def yX0_init : MethodName := ⟨RX0, "<init>", "()V"⟩
abbrev cX0_forget : ByteArray := prog_2_method_2_code
def yX0_forget : MethodName := ⟨RX0, "forget", "()V"⟩
abbrev cX0_perform : ByteArray := prog_2_method_3_code
def yX0_perform : MethodName := ⟨RX0, "perform", "(IIIII)I"⟩
abbrev cX0_ask : ByteArray := prog_2_method_4_code
def yX0_ask : MethodName := ⟨RX0, "ask", "(III)I"⟩
abbrev cX0_run : ByteArray := prog_2_method_5_code
def yX0_run : MethodName := ⟨RX0, "run", "(III)I"⟩
abbrev cX0_note : ByteArray := prog_2_method_6_code
def yX0_note : MethodName := ⟨RX0, "note", "(I)V"⟩
abbrev cX0_quotient : ByteArray := prog_2_method_7_code
def yX0_quotient : MethodName := ⟨RX0, "quotient", "(II)I"⟩
def RX1 : String := "WarmGossip$Parish"
def TX1 : u_T := fun k => match k with
  | 0 => ("WarmGossip$Parish", "laws", "[I", true)
  | 1 => ("WarmGossip$Parish", "friend", "[I", true)
  | 2 => ("WarmGossip$Parish", "taste", "[I", true)
  | 3 => ("WarmGossip$Parish", "kind", "[I", true)
  | 4 => ("WarmGossip$Parish", "heat", "[I", true)
  | 5 => ("WarmGossip$Parish", "at", "[I", true)
  | 6 => ("WarmGossip$Parish", "heard", "[I", true)
  | 7 => ("WarmGossip$Parish", "boxes", "I", false)
  | 8 => ("WarmGossip$Parish", "tales", "I", false)
  | 9 => ("WarmGossip$Parish", "minutesGone", "I", false)
  | _ => ("WarmGossip$Parish", "z", "I", false)
def tyX1 : Nat → FieldType := fun k => match k with
  | 0 => .array .int
  | 1 => .array .int
  | 2 => .array .int
  | 3 => .array .int
  | 4 => .array .int
  | 5 => .array .int
  | 6 => .array .int
  | 7 => .int
  | 8 => .int
  | 9 => .int
  | _ => .int
abbrev wsX10 : List Cond := u_ws RX1 TX1 11
theorem nmX1 : ∀ a, a < 11 → ∀ b, b < 11 → a ≠ b → (TX1 a).2.1 ≠ (TX1 b).2.1 := by decide +kernel
theorem tyX1_ok : ∀ k, k < 11 → parseFieldDescriptor (TX1 k).2.2.1 = some (tyX1 k) := by decide +kernel
abbrev cX1_init : ByteArray := prog_3_method_1_code
def yX1_init : MethodName := ⟨RX1, "<init>", "()V"⟩
abbrev cX1_makeFirst : ByteArray := prog_3_method_2_code
def yX1_makeFirst : MethodName := ⟨RX1, "makeFirst", "()V"⟩
abbrev cX1_copyFrom : ByteArray := prog_3_method_3_code
def yX1_copyFrom : MethodName := ⟨RX1, "copyFrom", "(LWarmGossip$Parish;)V"⟩
abbrev cX1_add : ByteArray := prog_3_method_4_code
def yX1_add : MethodName := ⟨RX1, "add", "(III)I"⟩
abbrev cX1_bring : ByteArray := prog_3_method_5_code
def yX1_bring : MethodName := ⟨RX1, "bring", "(II)V"⟩
abbrev cX1_coolsOf : ByteArray := prog_3_method_6_code
def yX1_coolsOf : MethodName := ⟨RX1, "coolsOf", "(I)I"⟩
abbrev cX1_doorsOf : ByteArray := prog_3_method_7_code
def yX1_doorsOf : MethodName := ⟨RX1, "doorsOf", "(I)I"⟩
abbrev cX1_passMinute : ByteArray := prog_3_method_8_code
def yX1_passMinute : MethodName := ⟨RX1, "passMinute", "()V"⟩
abbrev cX1_passMinuteOf : ByteArray := prog_3_method_9_code
def yX1_passMinuteOf : MethodName := ⟨RX1, "passMinuteOf", "(I)V"⟩
abbrev cX1_passMinutesOf : ByteArray := prog_3_method_10_code
def yX1_passMinutesOf : MethodName := ⟨RX1, "passMinutesOf", "(II)V"⟩
abbrev cX1_passMinuteByDraws : ByteArray := prog_3_method_11_code
def yX1_passMinuteByDraws : MethodName := ⟨RX1, "passMinuteByDraws", "()V"⟩
abbrev cX1_draw : ByteArray := prog_3_method_12_code
def yX1_draw : MethodName := ⟨RX1, "draw", "()I"⟩
abbrev cX1_handOnAndCool : ByteArray := prog_3_method_13_code
def yX1_handOnAndCool : MethodName := ⟨RX1, "handOnAndCool", "(I)V"⟩
abbrev cX1_hasBox : ByteArray := prog_3_method_14_code
def yX1_hasBox : MethodName := ⟨RX1, "hasBox", "(I)Z"⟩
abbrev cX1_heatTogether : ByteArray := prog_3_method_15_code
def yX1_heatTogether : MethodName := ⟨RX1, "heatTogether", "()I"⟩
abbrev cX1_hearings : ByteArray := prog_3_method_16_code
def yX1_hearings : MethodName := ⟨RX1, "hearings", "()I"⟩
abbrev cX1_housesWithTales : ByteArray := prog_3_method_17_code
def yX1_housesWithTales : MethodName := ⟨RX1, "housesWithTales", "()I"⟩
abbrev cX1_coldTales : ByteArray := prog_3_method_18_code
def yX1_coldTales : MethodName := ⟨RX1, "coldTales", "()I"⟩
abbrev cX1_talesAt : ByteArray := prog_3_method_19_code
def yX1_talesAt : MethodName := ⟨RX1, "talesAt", "(I)I"⟩
abbrev cX1_talesHeardBy : ByteArray := prog_3_method_20_code
def yX1_talesHeardBy : MethodName := ⟨RX1, "talesHeardBy", "(I)I"⟩
abbrev cX1_loopFrom : ByteArray := prog_3_method_21_code
def yX1_loopFrom : MethodName := ⟨RX1, "loopFrom", "(I)I"⟩
def RX2 : String := "WarmGossip$Sheet"
def TX2 : u_T := fun k => match k with
  | 0 => ("WarmGossip$Sheet", "sort", "I", false)
  | 1 => ("WarmGossip$Sheet", "count", "I", false)
  | _ => ("WarmGossip$Sheet", "items", "[I", true)
def tyX2 : Nat → FieldType := fun k => match k with
  | 0 => .int
  | 1 => .int
  | _ => .array .int
abbrev wsX20 : List Cond := u_ws RX2 TX2 3
theorem nmX2 : ∀ a, a < 3 → ∀ b, b < 3 → a ≠ b → (TX2 a).2.1 ≠ (TX2 b).2.1 := by decide +kernel
theorem tyX2_ok : ∀ k, k < 3 → parseFieldDescriptor (TX2 k).2.2.1 = some (tyX2 k) := by decide +kernel
abbrev cX2_init : ByteArray := prog_4_method_1_code
def yX2_init : MethodName := ⟨RX2, "<init>", "()V"⟩
abbrev cX2_isMissing : ByteArray := prog_4_method_2_code
def yX2_isMissing : MethodName := ⟨RX2, "isMissing", "()Z"⟩
abbrev cX2_becomeMissing : ByteArray := prog_4_method_3_code
def yX2_becomeMissing : MethodName := ⟨RX2, "becomeMissing", "()V"⟩
abbrev cX2_becomeRow : ByteArray := prog_4_method_4_code
def yX2_becomeRow : MethodName := ⟨RX2, "becomeRow", "(II)V"⟩
abbrev cX2_narrowed : ByteArray := prog_4_method_5_code
def yX2_narrowed : MethodName := ⟨RX2, "narrowed", "(I)I"⟩
def RX3 : String := "WarmGossip$Shelf"
def TX3 : u_T := fun k => match k with
  | 0 => ("WarmGossip$Shelf", "holds", "I", false)
  | 1 => ("WarmGossip$Shelf", "number", "I", false)
  | _ => ("WarmGossip$Shelf", "sort", "I", false)
def tyX3 : Nat → FieldType := fun k => match k with
  | 0 => .int
  | 1 => .int
  | _ => .int
abbrev wsX30 : List Cond := u_ws RX3 TX3 3
theorem nmX3 : ∀ a, a < 3 → ∀ b, b < 3 → a ≠ b → (TX3 a).2.1 ≠ (TX3 b).2.1 := by decide +kernel
theorem tyX3_ok : ∀ k, k < 3 → parseFieldDescriptor (TX3 k).2.2.1 = some (tyX3 k) := by decide +kernel
abbrev cX3_init : ByteArray := prog_5_method_1_code
def yX3_init : MethodName := ⟨RX3, "<init>", "()V"⟩
abbrev cX3_holdTale : ByteArray := prog_5_method_2_code
def yX3_holdTale : MethodName := ⟨RX3, "holdTale", "(I)V"⟩
abbrev cX3_holdRow : ByteArray := prog_5_method_3_code
def yX3_holdRow : MethodName := ⟨RX3, "holdRow", "(LWarmGossip$Sheet;)V"⟩
abbrev cX3_holdNothing : ByteArray := prog_5_method_4_code
def yX3_holdNothing : MethodName := ⟨RX3, "holdNothing", "()V"⟩
def RX4 : String := "WarmGossip$Tape"
def TX4 : u_T := fun k => match k with
  | 0 => ("WarmGossip$Tape", "bytes", "[B", true)
  | 1 => ("WarmGossip$Tape", "count", "I", false)
  | 2 => ("WarmGossip$Tape", "found", "I", false)
  | 3 => ("WarmGossip$Tape", "start", "I", false)
  | _ => ("WarmGossip$Tape", "end", "I", false)
def tyX4 : Nat → FieldType := fun k => match k with
  | 0 => .array .byte
  | 1 => .int
  | 2 => .int
  | 3 => .int
  | _ => .int
abbrev wsX40 : List Cond := u_ws RX4 TX4 5
theorem nmX4 : ∀ a, a < 5 → ∀ b, b < 5 → a ≠ b → (TX4 a).2.1 ≠ (TX4 b).2.1 := by decide +kernel
theorem tyX4_ok : ∀ k, k < 5 → parseFieldDescriptor (TX4 k).2.2.1 = some (tyX4 k) := by decide +kernel
abbrev cX4_init : ByteArray := prog_6_method_1_code
def yX4_init : MethodName := ⟨RX4, "<init>", "()V"⟩
abbrev cX4_append : ByteArray := prog_6_method_2_code
def yX4_append : MethodName := ⟨RX4, "append", "(B)V"⟩
abbrev cX4_readInto : ByteArray := prog_6_method_3_code
def yX4_readInto : MethodName := ⟨RX4, "readInto", "(LWarmGossip$Parish;)I"⟩
abbrev cX4_readSentence : ByteArray := prog_6_method_4_code
def yX4_readSentence : MethodName := ⟨RX4, "readSentence", "(LWarmGossip$Parish;)Z"⟩
abbrev cX4_readTale : ByteArray := prog_6_method_5_code
def yX4_readTale : MethodName := ⟨RX4, "readTale", "(LWarmGossip$Parish;I)Z"⟩
abbrev cX4_readLaw : ByteArray := prog_6_method_6_code
def yX4_readLaw : MethodName := ⟨RX4, "readLaw", "(LWarmGossip$Parish;I)Z"⟩
abbrev cX4_readOfHouse : ByteArray := prog_6_method_7_code
def yX4_readOfHouse : MethodName := ⟨RX4, "readOfHouse", "([II)Z"⟩
abbrev cX4_readBox : ByteArray := prog_6_method_8_code
def yX4_readBox : MethodName := ⟨RX4, "readBox", "(LWarmGossip$Parish;)Z"⟩
abbrev cX4_namedKind : ByteArray := prog_6_method_9_code
def yX4_namedKind : MethodName := ⟨RX4, "namedKind", "()I"⟩
abbrev cX4_namedLaw : ByteArray := prog_6_method_10_code
def yX4_namedLaw : MethodName := ⟨RX4, "namedLaw", "()I"⟩
abbrev cX4_advance : ByteArray := prog_6_method_11_code
def yX4_advance : MethodName := ⟨RX4, "advance", "()V"⟩
abbrev cX4_goBehind : ByteArray := prog_6_method_12_code
def yX4_goBehind : MethodName := ⟨RX4, "goBehind", "(CC)V"⟩
abbrev cX4_isName : ByteArray := prog_6_method_13_code
def yX4_isName : MethodName := ⟨RX4, "isName", "(Ljava/lang/String;)Z"⟩
abbrev cX4_passName : ByteArray := prog_6_method_14_code
def yX4_passName : MethodName := ⟨RX4, "passName", "(Ljava/lang/String;)Z"⟩
abbrev cX4_isNumberTo : ByteArray := prog_6_method_15_code
def yX4_isNumberTo : MethodName := ⟨RX4, "isNumberTo", "(I)Z"⟩
abbrev cX4_numberHere : ByteArray := prog_6_method_16_code
def yX4_numberHere : MethodName := ⟨RX4, "numberHere", "()I"⟩
abbrev cX4_takeNumber : ByteArray := prog_6_method_17_code
def yX4_takeNumber : MethodName := ⟨RX4, "takeNumber", "()I"⟩
abbrev cX4_passSemicolon : ByteArray := prog_6_method_18_code
def yX4_passSemicolon : MethodName := ⟨RX4, "passSemicolon", "()Z"⟩
def RX5 : String := "WarmGossip"
def TX5 : u_T := fun k => match k with
  | 0 => ("WarmGossip", "now", "LWarmGossip$Parish;", true)
  | 1 => ("WarmGossip", "kept", "LWarmGossip$Parish;", true)
  | 2 => ("WarmGossip", "tried", "LWarmGossip$Parish;", true)
  | 3 => ("WarmGossip", "anyKept", "Z", false)
  | 4 => ("WarmGossip", "tape", "LWarmGossip$Tape;", true)
  | 5 => ("WarmGossip", "rows", "[[I", true)
  | 6 => ("WarmGossip", "rowCount", "I", false)
  | 7 => ("WarmGossip", "sheets", "[LWarmGossip$Sheet;", true)
  | 8 => ("WarmGossip", "shelves", "[LWarmGossip$Shelf;", true)
  | _ => ("WarmGossip", "doing", "LWarmGossip$Doing;", true)
def tyX5 : Nat → FieldType := fun k => match k with
  | 0 => .object "WarmGossip$Parish"
  | 1 => .object "WarmGossip$Parish"
  | 2 => .object "WarmGossip$Parish"
  | 3 => .boolean
  | 4 => .object "WarmGossip$Tape"
  | 5 => .array (.array .int)
  | 6 => .int
  | 7 => .array (.object "WarmGossip$Sheet")
  | 8 => .array (.object "WarmGossip$Shelf")
  | _ => .object "WarmGossip$Doing"
abbrev wsX50 : List Cond := u_ws RX5 TX5 10
theorem nmX5 : ∀ a, a < 10 → ∀ b, b < 10 → a ≠ b → (TX5 a).2.1 ≠ (TX5 b).2.1 := by decide +kernel
theorem tyX5_ok : ∀ k, k < 10 → parseFieldDescriptor (TX5 k).2.2.1 = some (tyX5 k) := by decide +kernel
abbrev cX5_init : ByteArray := prog_1_method_1_code
def yX5_init : MethodName := ⟨RX5, "<init>", "()V"⟩
abbrev cX5_feed : ByteArray := prog_1_method_2_code
def yX5_feed : MethodName := ⟨RX5, "feed", "(JI)I"⟩
abbrev cX5_parish : ByteArray := prog_1_method_3_code
def yX5_parish : MethodName := ⟨RX5, "parish", "()I"⟩
abbrev cX5_set : ByteArray := prog_1_method_4_code
def yX5_set : MethodName := ⟨RX5, "set", "(II)I"⟩
abbrev cX5_lawOf : ByteArray := prog_1_method_5_code
def yX5_lawOf : MethodName := ⟨RX5, "lawOf", "(I)I"⟩
abbrev cX5_tale : ByteArray := prog_1_method_6_code
def yX5_tale : MethodName := ⟨RX5, "tale", "(III)I"⟩
abbrev cX5_of : ByteArray := prog_1_method_7_code
def yX5_of : MethodName := ⟨RX5, "of", "(II)I"⟩
abbrev cX5_does : ByteArray := prog_1_method_8_code
def yX5_does : MethodName := ⟨RX5, "does", "(II)I"⟩
abbrev cX5_mind : ByteArray := prog_1_method_9_code
def yX5_mind : MethodName := ⟨RX5, "mind", "(II)I"⟩
abbrev cX5_warm : ByteArray := prog_1_method_10_code
def yX5_warm : MethodName := ⟨RX5, "warm", "(II)I"⟩
abbrev cX5_carry : ByteArray := prog_1_method_11_code
def yX5_carry : MethodName := ⟨RX5, "carry", "(II)I"⟩
abbrev cX5_house : ByteArray := prog_1_method_12_code
def yX5_house : MethodName := ⟨RX5, "house", "(III)I"⟩
abbrev cX5_houseOf : ByteArray := prog_1_method_13_code
def yX5_houseOf : MethodName := ⟨RX5, "houseOf", "(II)I"⟩
abbrev cX5_minutes : ByteArray := prog_1_method_14_code
def yX5_minutes : MethodName := ⟨RX5, "minutes", "(I)I"⟩
abbrev cX5_seed : ByteArray := prog_1_method_15_code
def yX5_seed : MethodName := ⟨RX5, "seed", "(I)I"⟩
abbrev cX5_minute : ByteArray := prog_1_method_16_code
def yX5_minute : MethodName := ⟨RX5, "minute", "()I"⟩
abbrev cX5_state : ByteArray := prog_1_method_17_code
def yX5_state : MethodName := ⟨RX5, "state", "(I)I"⟩
abbrev cX5_spread : ByteArray := prog_1_method_18_code
def yX5_spread : MethodName := ⟨RX5, "spread", "(I)I"⟩
abbrev cX5_where : ByteArray := prog_1_method_19_code
def yX5_where : MethodName := ⟨RX5, "where", "(II)I"⟩
abbrev cX5_comes : ByteArray := prog_1_method_20_code
def yX5_comes : MethodName := ⟨RX5, "comes", "(II)I"⟩
abbrev cX5_cold : ByteArray := prog_1_method_21_code
def yX5_cold : MethodName := ⟨RX5, "cold", "(I)I"⟩
abbrev cX5_whole : ByteArray := prog_1_method_22_code
def yX5_whole : MethodName := ⟨RX5, "whole", "(I)I"⟩
abbrev cX5_home : ByteArray := prog_1_method_23_code
def yX5_home : MethodName := ⟨RX5, "home", "(I)I"⟩
abbrev cX5_reach : ByteArray := prog_1_method_24_code
def yX5_reach : MethodName := ⟨RX5, "reach", "(II)I"⟩
abbrev cX5_friendFor : ByteArray := prog_1_method_25_code
def yX5_friendFor : MethodName := ⟨RX5, "friendFor", "(III)I"⟩
abbrev cX5_boxFor : ByteArray := prog_1_method_26_code
def yX5_boxFor : MethodName := ⟨RX5, "boxFor", "(II)I"⟩
abbrev cX5_kindFor : ByteArray := prog_1_method_27_code
def yX5_kindFor : MethodName := ⟨RX5, "kindFor", "(II)I"⟩
abbrev cX5_heatFor : ByteArray := prog_1_method_28_code
def yX5_heatFor : MethodName := ⟨RX5, "heatFor", "(III)I"⟩
abbrev cX5_keptFor : ByteArray := prog_1_method_29_code
def yX5_keptFor : MethodName := ⟨RX5, "keptFor", "(III)I"⟩
abbrev cX5_fits : ByteArray := prog_1_method_30_code
def yX5_fits : MethodName := ⟨RX5, "fits", "(III)I"⟩
abbrev cX5_startTrial : ByteArray := prog_1_method_31_code
def yX5_startTrial : MethodName := ⟨RX5, "startTrial", "()V"⟩
abbrev cX5_triedUntilHeard : ByteArray := prog_1_method_32_code
def yX5_triedUntilHeard : MethodName := ⟨RX5, "triedUntilHeard", "(III)I"⟩
abbrev cX5_triedReach : ByteArray := prog_1_method_33_code
def yX5_triedReach : MethodName := ⟨RX5, "triedReach", "(II)I"⟩
abbrev cX5_triedHeat : ByteArray := prog_1_method_34_code
def yX5_triedHeat : MethodName := ⟨RX5, "triedHeat", "(III)I"⟩
abbrev cX5_goesAsTold : ByteArray := prog_1_method_35_code
def yX5_goesAsTold : MethodName := ⟨RX5, "goesAsTold", "(IILWarmGossip$Sheet;)Z"⟩
abbrev cX5_odds : ByteArray := prog_1_method_36_code
def yX5_odds : MethodName := ⟨RX5, "odds", "(III)J"⟩
abbrev cX5_hope : ByteArray := prog_1_method_37_code
def yX5_hope : MethodName := ⟨RX5, "hope", "(II)J"⟩
abbrev cX5_waysToChoose : ByteArray := prog_1_method_38_code
def yX5_waysToChoose : MethodName := ⟨RX5, "waysToChoose", "(II)J"⟩
abbrev cX5_power : ByteArray := prog_1_method_39_code
def yX5_power : MethodName := ⟨RX5, "power", "(JI)J"⟩
abbrev cX5_partOf : ByteArray := prog_1_method_40_code
def yX5_partOf : MethodName := ⟨RX5, "partOf", "(JJI)J"⟩
abbrev cX5_commonDivisor : ByteArray := prog_1_method_41_code
def yX5_commonDivisor : MethodName := ⟨RX5, "commonDivisor", "(JJ)J"⟩
abbrev cX5_prove : ByteArray := prog_1_method_42_code
def yX5_prove : MethodName := ⟨RX5, "prove", "(II)I"⟩
abbrev cX5_row : ByteArray := prog_1_method_43_code
def yX5_row : MethodName := ⟨RX5, "row", "(II)I"⟩
abbrev cX5_alterRow : ByteArray := prog_1_method_44_code
def yX5_alterRow : MethodName := ⟨RX5, "alterRow", "(III)I"⟩
abbrev cX5_judge : ByteArray := prog_1_method_45_code
def yX5_judge : MethodName := ⟨RX5, "judge", "(I)I"⟩
abbrev cX5_triedRowPart : ByteArray := prog_1_method_46_code
def yX5_triedRowPart : MethodName := ⟨RX5, "triedRowPart", "(II)I"⟩
abbrev cX5_isInRows : ByteArray := prog_1_method_47_code
def yX5_isInRows : MethodName := ⟨RX5, "isInRows", "(II)Z"⟩
abbrev cX5_minds : ByteArray := prog_1_method_48_code
def yX5_minds : MethodName := ⟨RX5, "minds", "(IIII)I"⟩
abbrev cX5_sheet : ByteArray := prog_1_method_49_code
def yX5_sheet : MethodName := ⟨RX5, "sheet", "(III)I"⟩
abbrev cX5_put : ByteArray := prog_1_method_50_code
def yX5_put : MethodName := ⟨RX5, "put", "(III)I"⟩
abbrev cX5_item : ByteArray := prog_1_method_51_code
def yX5_item : MethodName := ⟨RX5, "item", "(III)I"⟩
abbrev cX5_shelf : ByteArray := prog_1_method_52_code
def yX5_shelf : MethodName := ⟨RX5, "shelf", "(III)I"⟩
abbrev cX5_taken : ByteArray := prog_1_method_53_code
def yX5_taken : MethodName := ⟨RX5, "taken", "(II)I"⟩
abbrev cX5_act : ByteArray := prog_1_method_54_code
def yX5_act : MethodName := ⟨RX5, "act", "(III)I"⟩
abbrev cX5_trace : ByteArray := prog_1_method_55_code
def yX5_trace : MethodName := ⟨RX5, "trace", "(I)I"⟩
abbrev cX5_holdsTale : ByteArray := prog_1_method_56_code
def yX5_holdsTale : MethodName := ⟨RX5, "holdsTale", "(LWarmGossip$Shelf;)Z"⟩
abbrev cX5_isOrIsUnder : ByteArray := prog_1_method_57_code
def yX5_isOrIsUnder : MethodName := ⟨RX5, "isOrIsUnder", "(II)Z"⟩
abbrev cX5_many : ByteArray := prog_1_method_58_code
def yX5_many : MethodName := ⟨RX5, "many", "(I)I"⟩
abbrev cX5_keep : ByteArray := prog_1_method_59_code
def yX5_keep : MethodName := ⟨RX5, "keep", "()I"⟩
abbrev cX5_again : ByteArray := prog_1_method_60_code
def yX5_again : MethodName := ⟨RX5, "again", "()I"⟩
abbrev cX5_isWithin : ByteArray := prog_1_method_61_code
def yX5_isWithin : MethodName := ⟨RX5, "isWithin", "(III)Z"⟩
abbrev cX5_isHouse : ByteArray := prog_1_method_62_code
def yX5_isHouse : MethodName := ⟨RX5, "isHouse", "(I)Z"⟩
abbrev cX5_isKind : ByteArray := prog_1_method_63_code
def yX5_isKind : MethodName := ⟨RX5, "isKind", "(I)Z"⟩
abbrev cX5_isHeat : ByteArray := prog_1_method_64_code
def yX5_isHeat : MethodName := ⟨RX5, "isHeat", "(I)Z"⟩
abbrev cX5_isSheet : ByteArray := prog_1_method_65_code
def yX5_isSheet : MethodName := ⟨RX5, "isSheet", "(I)Z"⟩
abbrev cX5_isShelf : ByteArray := prog_1_method_66_code
def yX5_isShelf : MethodName := ⟨RX5, "isShelf", "(I)Z"⟩
abbrev cX5_isTale : ByteArray := prog_1_method_67_code
def yX5_isTale : MethodName := ⟨RX5, "isTale", "(I)Z"⟩
abbrev cX5_heldHeat : ByteArray := prog_1_method_68_code
def yX5_heldHeat : MethodName := ⟨RX5, "heldHeat", "(I)I"⟩
def RX6 : String := "WarmGossipModel"
def TX6 : u_T := fun k => match k with
  | 0 => ("WarmGossipModel", "s", "[I", true)
  | 1 => ("WarmGossipModel", "held", "[I", true)
  | 2 => ("WarmGossipModel", "aside", "[I", true)
  | 3 => ("WarmGossipModel", "before", "[I", true)
  | 4 => ("WarmGossipModel", "isHeld", "Z", false)
  | 5 => ("WarmGossipModel", "tape", "[I", true)
  | 6 => ("WarmGossipModel", "taped", "I", false)
  | 7 => ("WarmGossipModel", "token", "I", false)
  | 8 => ("WarmGossipModel", "from", "I", false)
  | 9 => ("WarmGossipModel", "to", "I", false)
  | 10 => ("WarmGossipModel", "value", "I", false)
  | 11 => ("WarmGossipModel", "isWrong", "Z", false)
  | 12 => ("WarmGossipModel", "rows", "[I", true)
  | 13 => ("WarmGossipModel", "rowN", "I", false)
  | 14 => ("WarmGossipModel", "sortOf", "[I", true)
  | 15 => ("WarmGossipModel", "sizeOf", "[I", true)
  | 16 => ("WarmGossipModel", "numbers", "[I", true)
  | 17 => ("WarmGossipModel", "holdsWhat", "[I", true)
  | 18 => ("WarmGossipModel", "holdsWhich", "[I", true)
  | 19 => ("WarmGossipModel", "holdsMany", "[I", true)
  | 20 => ("WarmGossipModel", "bodies", "[I", true)
  | 21 => ("WarmGossipModel", "ran", "I", false)
  | 22 => ("WarmGossipModel", "actKind", "I", false)
  | 23 => ("WarmGossipModel", "actN", "I", false)
  | 24 => ("WarmGossipModel", "actA", "I", false)
  | _ => ("WarmGossipModel", "isParted", "Z", false)
def tyX6 : Nat → FieldType := fun k => match k with
  | 0 => .array .int
  | 1 => .array .int
  | 2 => .array .int
  | 3 => .array .int
  | 4 => .boolean
  | 5 => .array .int
  | 6 => .int
  | 7 => .int
  | 8 => .int
  | 9 => .int
  | 10 => .int
  | 11 => .boolean
  | 12 => .array .int
  | 13 => .int
  | 14 => .array .int
  | 15 => .array .int
  | 16 => .array .int
  | 17 => .array .int
  | 18 => .array .int
  | 19 => .array .int
  | 20 => .array .int
  | 21 => .int
  | 22 => .int
  | 23 => .int
  | 24 => .int
  | _ => .boolean
abbrev wsX60 : List Cond := u_ws RX6 TX6 26
theorem nmX6 : ∀ a, a < 26 → ∀ b, b < 26 → a ≠ b → (TX6 a).2.1 ≠ (TX6 b).2.1 := by decide +kernel
theorem tyX6_ok : ∀ k, k < 26 → parseFieldDescriptor (TX6 k).2.2.1 = some (tyX6 k) := by decide +kernel
abbrev cX6_init : ByteArray := prog_8_method_1_code
def yX6_init : MethodName := ⟨RX6, "<init>", "()V"⟩
abbrev cX6_begins : ByteArray := prog_8_method_2_code
def yX6_begins : MethodName := ⟨RX6, "begins", "()V"⟩
abbrev cX6_isIn : ByteArray := prog_8_method_3_code
def yX6_isIn : MethodName := ⟨RX6, "isIn", "(JJJ)Z"⟩
abbrev cX6_isHouse : ByteArray := prog_8_method_4_code
def yX6_isHouse : MethodName := ⟨RX6, "isHouse", "(I)Z"⟩
abbrev cX6_isOne : ByteArray := prog_8_method_5_code
def yX6_isOne : MethodName := ⟨RX6, "isOne", "(I)Z"⟩
abbrev cX6_its : ByteArray := prog_8_method_6_code
def yX6_its : MethodName := ⟨RX6, "its", "(II)I"⟩
abbrev cX6_becomes : ByteArray := prog_8_method_7_code
def yX6_becomes : MethodName := ⟨RX6, "becomes", "(II)I"⟩
abbrev cX6_copyRow : ByteArray := prog_8_method_8_code
def yX6_copyRow : MethodName := ⟨RX6, "copyRow", "([I[I)V"⟩
abbrev cX6_greatest : ByteArray := prog_8_method_9_code
def yX6_greatest : MethodName := ⟨RX6, "greatest", "(II)I"⟩
abbrev cX6_within : ByteArray := prog_8_method_10_code
def yX6_within : MethodName := ⟨RX6, "within", "(I)I"⟩
abbrev cX6_size : ByteArray := prog_8_method_11_code
def yX6_size : MethodName := ⟨RX6, "size", "(I)I"⟩
abbrev cX6_isUnder : ByteArray := prog_8_method_12_code
def yX6_isUnder : MethodName := ⟨RX6, "isUnder", "(II)Z"⟩
abbrev cX6_feed : ByteArray := prog_8_method_13_code
def yX6_feed : MethodName := ⟨RX6, "feed", "(JI)I"⟩
abbrev cX6_isAlpha : ByteArray := prog_8_method_14_code
def yX6_isAlpha : MethodName := ⟨RX6, "isAlpha", "(I)Z"⟩
abbrev cX6_isDigit : ByteArray := prog_8_method_15_code
def yX6_isDigit : MethodName := ⟨RX6, "isDigit", "(I)Z"⟩
abbrev cX6_byteAt : ByteArray := prog_8_method_16_code
def yX6_byteAt : MethodName := ⟨RX6, "byteAt", "(I)I"⟩
abbrev cX6_nextToken : ByteArray := prog_8_method_17_code
def yX6_nextToken : MethodName := ⟨RX6, "nextToken", "()V"⟩
abbrev cX6_needs : ByteArray := prog_8_method_18_code
def yX6_needs : MethodName := ⟨RX6, "needs", "(Z)V"⟩
abbrev cX6_isName : ByteArray := prog_8_method_19_code
def yX6_isName : MethodName := ⟨RX6, "isName", "(IIIII)Z"⟩
abbrev cX6_isSame : ByteArray := prog_8_method_20_code
def yX6_isSame : MethodName := ⟨RX6, "isSame", "(IIII)Z"⟩
abbrev cX6_isFour : ByteArray := prog_8_method_21_code
def yX6_isFour : MethodName := ⟨RX6, "isFour", "(IIII)Z"⟩
abbrev cX6_isFive : ByteArray := prog_8_method_22_code
def yX6_isFive : MethodName := ⟨RX6, "isFive", "(IIIII)Z"⟩
abbrev cX6_kindHere : ByteArray := prog_8_method_23_code
def yX6_kindHere : MethodName := ⟨RX6, "kindHere", "()I"⟩
abbrev cX6_numberTo : ByteArray := prog_8_method_24_code
def yX6_numberTo : MethodName := ⟨RX6, "numberTo", "(II)V"⟩
abbrev cX6_isTwo : ByteArray := prog_8_method_25_code
def yX6_isTwo : MethodName := ⟨RX6, "isTwo", "(II)Z"⟩
abbrev cX6_taleHere : ByteArray := prog_8_method_26_code
def yX6_taleHere : MethodName := ⟨RX6, "taleHere", "(I)V"⟩
abbrev cX6_ofHouse : ByteArray := prog_8_method_27_code
def yX6_ofHouse : MethodName := ⟨RX6, "ofHouse", "(II)V"⟩
abbrev cX6_boxHere : ByteArray := prog_8_method_28_code
def yX6_boxHere : MethodName := ⟨RX6, "boxHere", "()V"⟩
abbrev cX6_lawHere : ByteArray := prog_8_method_29_code
def yX6_lawHere : MethodName := ⟨RX6, "lawHere", "()I"⟩
abbrev cX6_mostOf : ByteArray := prog_8_method_30_code
def yX6_mostOf : MethodName := ⟨RX6, "mostOf", "(I)I"⟩
abbrev cX6_itemHere : ByteArray := prog_8_method_31_code
def yX6_itemHere : MethodName := ⟨RX6, "itemHere", "()V"⟩
abbrev cX6_parish : ByteArray := prog_8_method_32_code
def yX6_parish : MethodName := ⟨RX6, "parish", "()I"⟩
abbrev cX6_set : ByteArray := prog_8_method_33_code
def yX6_set : MethodName := ⟨RX6, "set", "(II)I"⟩
abbrev cX6_lawOf : ByteArray := prog_8_method_34_code
def yX6_lawOf : MethodName := ⟨RX6, "lawOf", "(I)I"⟩
abbrev cX6_arrives : ByteArray := prog_8_method_35_code
def yX6_arrives : MethodName := ⟨RX6, "arrives", "(III)V"⟩
abbrev cX6_tale : ByteArray := prog_8_method_36_code
def yX6_tale : MethodName := ⟨RX6, "tale", "(III)I"⟩
abbrev cX6_cools : ByteArray := prog_8_method_37_code
def yX6_cools : MethodName := ⟨RX6, "cools", "(I)I"⟩
abbrev cX6_doors : ByteArray := prog_8_method_38_code
def yX6_doors : MethodName := ⟨RX6, "doors", "(I)I"⟩
abbrev cX6_of : ByteArray := prog_8_method_39_code
def yX6_of : MethodName := ⟨RX6, "of", "(II)I"⟩
abbrev cX6_does : ByteArray := prog_8_method_40_code
def yX6_does : MethodName := ⟨RX6, "does", "(II)I"⟩
abbrev cX6_mind : ByteArray := prog_8_method_41_code
def yX6_mind : MethodName := ⟨RX6, "mind", "(II)I"⟩
abbrev cX6_warm : ByteArray := prog_8_method_42_code
def yX6_warm : MethodName := ⟨RX6, "warm", "(II)I"⟩
abbrev cX6_reaches : ByteArray := prog_8_method_43_code
def yX6_reaches : MethodName := ⟨RX6, "reaches", "(II)V"⟩
abbrev cX6_carry : ByteArray := prog_8_method_44_code
def yX6_carry : MethodName := ⟨RX6, "carry", "(II)I"⟩
abbrev cX6_house : ByteArray := prog_8_method_45_code
def yX6_house : MethodName := ⟨RX6, "house", "(III)I"⟩
abbrev cX6_talesAt : ByteArray := prog_8_method_46_code
def yX6_talesAt : MethodName := ⟨RX6, "talesAt", "(I)I"⟩
abbrev cX6_loopOf : ByteArray := prog_8_method_47_code
def yX6_loopOf : MethodName := ⟨RX6, "loopOf", "(I)I"⟩
abbrev cX6_talesHeardBy : ByteArray := prog_8_method_48_code
def yX6_talesHeardBy : MethodName := ⟨RX6, "talesHeardBy", "(I)I"⟩
abbrev cX6_houseOf : ByteArray := prog_8_method_49_code
def yX6_houseOf : MethodName := ⟨RX6, "houseOf", "(II)I"⟩
abbrev cX6_goesOn : ByteArray := prog_8_method_50_code
def yX6_goesOn : MethodName := ⟨RX6, "goesOn", "()V"⟩
abbrev cX6_goes : ByteArray := prog_8_method_51_code
def yX6_goes : MethodName := ⟨RX6, "goes", "(I)V"⟩
abbrev cX6_heatOfAll : ByteArray := prog_8_method_52_code
def yX6_heatOfAll : MethodName := ⟨RX6, "heatOfAll", "()I"⟩
abbrev cX6_heardOfAll : ByteArray := prog_8_method_53_code
def yX6_heardOfAll : MethodName := ⟨RX6, "heardOfAll", "()I"⟩
abbrev cX6_minutes : ByteArray := prog_8_method_54_code
def yX6_minutes : MethodName := ⟨RX6, "minutes", "(I)I"⟩
abbrev cX6_seed : ByteArray := prog_8_method_55_code
def yX6_seed : MethodName := ⟨RX6, "seed", "(I)I"⟩
abbrev cX6_drawn : ByteArray := prog_8_method_56_code
def yX6_drawn : MethodName := ⟨RX6, "drawn", "()I"⟩
abbrev cX6_minute : ByteArray := prog_8_method_57_code
def yX6_minute : MethodName := ⟨RX6, "minute", "()I"⟩
abbrev cX6_spread : ByteArray := prog_8_method_58_code
def yX6_spread : MethodName := ⟨RX6, "spread", "(I)I"⟩
abbrev cX6_housesInUse : ByteArray := prog_8_method_59_code
def yX6_housesInUse : MethodName := ⟨RX6, "housesInUse", "()I"⟩
abbrev cX6_boxes : ByteArray := prog_8_method_60_code
def yX6_boxes : MethodName := ⟨RX6, "boxes", "()I"⟩
abbrev cX6_coldOnes : ByteArray := prog_8_method_61_code
def yX6_coldOnes : MethodName := ⟨RX6, "coldOnes", "()I"⟩
abbrev cX6_state : ByteArray := prog_8_method_62_code
def yX6_state : MethodName := ⟨RX6, "state", "(I)I"⟩
abbrev cX6_where : ByteArray := prog_8_method_63_code
def yX6_where : MethodName := ⟨RX6, "where", "(II)I"⟩
abbrev cX6_heardBy : ByteArray := prog_8_method_64_code
def yX6_heardBy : MethodName := ⟨RX6, "heardBy", "(III)I"⟩
abbrev cX6_comes : ByteArray := prog_8_method_65_code
def yX6_comes : MethodName := ⟨RX6, "comes", "(II)I"⟩
abbrev cX6_whole : ByteArray := prog_8_method_66_code
def yX6_whole : MethodName := ⟨RX6, "whole", "(I)I"⟩
abbrev cX6_cold : ByteArray := prog_8_method_67_code
def yX6_cold : MethodName := ⟨RX6, "cold", "(I)I"⟩
abbrev cX6_home : ByteArray := prog_8_method_68_code
def yX6_home : MethodName := ⟨RX6, "home", "(I)I"⟩
abbrev cX6_reachBy : ByteArray := prog_8_method_69_code
def yX6_reachBy : MethodName := ⟨RX6, "reachBy", "(II)I"⟩
abbrev cX6_reach : ByteArray := prog_8_method_70_code
def yX6_reach : MethodName := ⟨RX6, "reach", "(II)I"⟩
abbrev cX6_isShort : ByteArray := prog_8_method_71_code
def yX6_isShort : MethodName := ⟨RX6, "isShort", "(I)Z"⟩
abbrev cX6_farthestBy : ByteArray := prog_8_method_72_code
def yX6_farthestBy : MethodName := ⟨RX6, "farthestBy", "(IIII)I"⟩
abbrev cX6_friendFor : ByteArray := prog_8_method_73_code
def yX6_friendFor : MethodName := ⟨RX6, "friendFor", "(III)I"⟩
abbrev cX6_kindFor : ByteArray := prog_8_method_74_code
def yX6_kindFor : MethodName := ⟨RX6, "kindFor", "(II)I"⟩
abbrev cX6_heatBehind : ByteArray := prog_8_method_75_code
def yX6_heatBehind : MethodName := ⟨RX6, "heatBehind", "(II)I"⟩
abbrev cX6_boxFor : ByteArray := prog_8_method_76_code
def yX6_boxFor : MethodName := ⟨RX6, "boxFor", "(II)I"⟩
abbrev cX6_heatFor : ByteArray := prog_8_method_77_code
def yX6_heatFor : MethodName := ⟨RX6, "heatFor", "(III)I"⟩
abbrev cX6_keptFor : ByteArray := prog_8_method_78_code
def yX6_keptFor : MethodName := ⟨RX6, "keptFor", "(III)I"⟩
abbrev cX6_laysBoxes : ByteArray := prog_8_method_79_code
def yX6_laysBoxes : MethodName := ⟨RX6, "laysBoxes", "(I)V"⟩
abbrev cX6_product : ByteArray := prog_8_method_80_code
def yX6_product : MethodName := ⟨RX6, "product", "(I)J"⟩
abbrev cX6_partOf : ByteArray := prog_8_method_81_code
def yX6_partOf : MethodName := ⟨RX6, "partOf", "(JJI)J"⟩
abbrev cX6_isTold : ByteArray := prog_8_method_82_code
def yX6_isTold : MethodName := ⟨RX6, "isTold", "(II)Z"⟩
abbrev cX6_fits : ByteArray := prog_8_method_83_code
def yX6_fits : MethodName := ⟨RX6, "fits", "(III)I"⟩
abbrev cX6_odds : ByteArray := prog_8_method_84_code
def yX6_odds : MethodName := ⟨RX6, "odds", "(III)J"⟩
abbrev cX6_hope : ByteArray := prog_8_method_85_code
def yX6_hope : MethodName := ⟨RX6, "hope", "(II)J"⟩
abbrev cX6_prove : ByteArray := prog_8_method_86_code
def yX6_prove : MethodName := ⟨RX6, "prove", "(II)I"⟩
abbrev cX6_isRow : ByteArray := prog_8_method_87_code
def yX6_isRow : MethodName := ⟨RX6, "isRow", "(II)Z"⟩
abbrev cX6_row : ByteArray := prog_8_method_88_code
def yX6_row : MethodName := ⟨RX6, "row", "(II)I"⟩
abbrev cX6_alterRow : ByteArray := prog_8_method_89_code
def yX6_alterRow : MethodName := ⟨RX6, "alterRow", "(III)I"⟩
abbrev cX6_judge : ByteArray := prog_8_method_90_code
def yX6_judge : MethodName := ⟨RX6, "judge", "(I)I"⟩
abbrev cX6_isSheet : ByteArray := prog_8_method_91_code
def yX6_isSheet : MethodName := ⟨RX6, "isSheet", "(I)Z"⟩
abbrev cX6_isShelf : ByteArray := prog_8_method_92_code
def yX6_isShelf : MethodName := ⟨RX6, "isShelf", "(I)Z"⟩
abbrev cX6_sheet : ByteArray := prog_8_method_93_code
def yX6_sheet : MethodName := ⟨RX6, "sheet", "(III)I"⟩
abbrev cX6_put : ByteArray := prog_8_method_94_code
def yX6_put : MethodName := ⟨RX6, "put", "(III)I"⟩
abbrev cX6_lacks : ByteArray := prog_8_method_95_code
def yX6_lacks : MethodName := ⟨RX6, "lacks", "(II)I"⟩
abbrev cX6_item : ByteArray := prog_8_method_96_code
def yX6_item : MethodName := ⟨RX6, "item", "(III)I"⟩
abbrev cX6_minds : ByteArray := prog_8_method_97_code
def yX6_minds : MethodName := ⟨RX6, "minds", "(IIII)I"⟩
abbrev cX6_shelf : ByteArray := prog_8_method_98_code
def yX6_shelf : MethodName := ⟨RX6, "shelf", "(III)I"⟩
abbrev cX6_heldOn : ByteArray := prog_8_method_99_code
def yX6_heldOn : MethodName := ⟨RX6, "heldOn", "(I)I"⟩
abbrev cX6_taken : ByteArray := prog_8_method_100_code
def yX6_taken : MethodName := ⟨RX6, "taken", "(II)I"⟩
abbrev cX6_runs : ByteArray := prog_8_method_101_code
def yX6_runs : MethodName := ⟨RX6, "runs", "(I)V"⟩
abbrev cX6_steamsPlain : ByteArray := prog_8_method_102_code
def yX6_steamsPlain : MethodName := ⟨RX6, "steamsPlain", "(I)I"⟩
abbrev cX6_steamsOfRumour : ByteArray := prog_8_method_103_code
def yX6_steamsOfRumour : MethodName := ⟨RX6, "steamsOfRumour", "(I)I"⟩
abbrev cX6_steams : ByteArray := prog_8_method_104_code
def yX6_steams : MethodName := ⟨RX6, "steams", "(I)I"⟩
abbrev cX6_smellsPlain : ByteArray := prog_8_method_105_code
def yX6_smellsPlain : MethodName := ⟨RX6, "smellsPlain", "(I)I"⟩
abbrev cX6_smells : ByteArray := prog_8_method_106_code
def yX6_smells : MethodName := ⟨RX6, "smells", "(I)I"⟩
abbrev cX6_partsPlain : ByteArray := prog_8_method_107_code
def yX6_partsPlain : MethodName := ⟨RX6, "partsPlain", "(I)I"⟩
abbrev cX6_parts : ByteArray := prog_8_method_108_code
def yX6_parts : MethodName := ⟨RX6, "parts", "(I)I"⟩
abbrev cX6_burnsPlain : ByteArray := prog_8_method_109_code
def yX6_burnsPlain : MethodName := ⟨RX6, "burnsPlain", "(I)I"⟩
abbrev cX6_burns : ByteArray := prog_8_method_110_code
def yX6_burns : MethodName := ⟨RX6, "burns", "(I)I"⟩
abbrev cX6_act : ByteArray := prog_8_method_111_code
def yX6_act : MethodName := ⟨RX6, "act", "(III)I"⟩
abbrev cX6_trace : ByteArray := prog_8_method_112_code
def yX6_trace : MethodName := ⟨RX6, "trace", "(I)I"⟩
abbrev cX6_many : ByteArray := prog_8_method_113_code
def yX6_many : MethodName := ⟨RX6, "many", "(I)I"⟩
abbrev cX6_keep : ByteArray := prog_8_method_114_code
def yX6_keep : MethodName := ⟨RX6, "keep", "()I"⟩
abbrev cX6_again : ByteArray := prog_8_method_115_code
def yX6_again : MethodName := ⟨RX6, "again", "()I"⟩
def RJ6 : String := "java/lang/Integer"
def TJ6 : u_T := fun k => match k with
  | _ => ("", "", "", false)
def tyJ6 : Nat → FieldType := fun k => match k with
  | _ => .int
abbrev wsJ60 : List Cond := u_ws RJ6 TJ6 0
theorem nmJ6 : ∀ a, a < 0 → ∀ b, b < 0 → a ≠ b → (TJ6 a).2.1 ≠ (TJ6 b).2.1 := by decide +kernel
theorem tyJ6_ok : ∀ k, k < 0 → parseFieldDescriptor (TJ6 k).2.2.1 = some (tyJ6 k) := by decide +kernel
abbrev cJ6_bitCount_0f7a4 : ByteArray := prog_9_method_49_code
def yJ6_bitCount_0f7a4 : MethodName := ⟨RJ6, "bitCount", "(I)I"⟩
def RJ9 : String := "java/lang/Math"
def TJ9 : u_T := fun k => match k with
  | _ => ("", "", "", false)
def tyJ9 : Nat → FieldType := fun k => match k with
  | _ => .int
abbrev wsJ90 : List Cond := u_ws RJ9 TJ9 0
theorem nmJ9 : ∀ a, a < 0 → ∀ b, b < 0 → a ≠ b → (TJ9 a).2.1 ≠ (TJ9 b).2.1 := by decide +kernel
theorem tyJ9_ok : ∀ k, k < 0 → parseFieldDescriptor (TJ9 k).2.2.1 = some (tyJ9 k) := by decide +kernel
abbrev cJ9_max_7cf53 : ByteArray := prog_10_method_65_code
def yJ9_max_7cf53 : MethodName := ⟨RJ9, "max", "(II)I"⟩
abbrev cJ9_min_7cf53 : ByteArray := prog_10_method_69_code
def yJ9_min_7cf53 : MethodName := ⟨RJ9, "min", "(II)I"⟩
def RJ0 : String := "java/lang/String"
def TJ0 : u_T := fun k => match k with
  | _ => ("", "", "", false)
def tyJ0 : Nat → FieldType := fun k => match k with
  | _ => .int
abbrev wsJ00 : List Cond := u_ws RJ0 TJ0 0
theorem nmJ0 : ∀ a, a < 0 → ∀ b, b < 0 → a ≠ b → (TJ0 a).2.1 ≠ (TJ0 b).2.1 := by decide +kernel
theorem tyJ0_ok : ∀ k, k < 0 → parseFieldDescriptor (TJ0 k).2.2.1 = some (tyJ0 k) := by decide +kernel
abbrev cJ0_length_8abf5 : ByteArray := prog_11_method_54_code
def yJ0_length_8abf5 : MethodName := ⟨RJ0, "length", "()I"⟩
abbrev cJ0_charAt_5068e : ByteArray := prog_11_method_56_code
def yJ0_charAt_5068e : MethodName := ⟨RJ0, "charAt", "(I)C"⟩
abbrev cJ0_coder_7d493 : ByteArray := prog_11_method_152_code
def yJ0_coder_7d493 : MethodName := ⟨RJ0, "coder", "()B"⟩
abbrev cJ0_isLatin1_aae02 : ByteArray := prog_11_method_154_code
def yJ0_isLatin1_aae02 : MethodName := ⟨RJ0, "isLatin1", "()Z"⟩
abbrev cJ0_checkIndex_df160 : ByteArray := prog_11_method_155_code
def yJ0_checkIndex_df160 : MethodName := ⟨RJ0, "checkIndex", "(II)V"⟩
def RJ1 : String := "java/lang/StringLatin1"
def TJ1 : u_T := fun k => match k with
  | _ => ("", "", "", false)
def tyJ1 : Nat → FieldType := fun k => match k with
  | _ => .int
abbrev wsJ10 : List Cond := u_ws RJ1 TJ1 0
theorem nmJ1 : ∀ a, a < 0 → ∀ b, b < 0 → a ≠ b → (TJ1 a).2.1 ≠ (TJ1 b).2.1 := by decide +kernel
theorem tyJ1_ok : ∀ k, k < 0 → parseFieldDescriptor (TJ1 k).2.2.1 = some (tyJ1 k) := by decide +kernel
abbrev cJ1_charAt_3b067 : ByteArray := prog_12_method_2_code
def yJ1_charAt_3b067 : MethodName := ⟨RJ1, "charAt", "([BI)C"⟩
def RJ2 : String := "java/lang/StringUTF16"
def TJ2 : u_T := fun k => match k with
  | _ => ("", "", "", false)
def tyJ2 : Nat → FieldType := fun k => match k with
  | _ => .int
abbrev wsJ20 : List Cond := u_ws RJ2 TJ2 0
theorem nmJ2 : ∀ a, a < 0 → ∀ b, b < 0 → a ≠ b → (TJ2 a).2.1 ≠ (TJ2 b).2.1 := by decide +kernel
theorem tyJ2_ok : ∀ k, k < 0 → parseFieldDescriptor (TJ2 k).2.2.1 = some (tyJ2 k) := by decide +kernel
abbrev cJ2_getChar_3b067 : ByteArray := prog_13_method_5_code
def yJ2_getChar_3b067 : MethodName := ⟨RJ2, "getChar", "([BI)C"⟩
abbrev cJ2_length_9d52b : ByteArray := prog_13_method_6_code
def yJ2_length_9d52b : MethodName := ⟨RJ2, "length", "([B)I"⟩
abbrev cJ2_charAt_3b067 : ByteArray := prog_13_method_83_code
def yJ2_charAt_3b067 : MethodName := ⟨RJ2, "charAt", "([BI)C"⟩
abbrev cJ2_checkIndex_2214a : ByteArray := prog_13_method_91_code
def yJ2_checkIndex_2214a : MethodName := ⟨RJ2, "checkIndex", "(I[B)V"⟩
def RJ10 : String := "java/lang/System"
def TJ10 : u_T := fun k => match k with
  | _ => ("", "", "", false)
def tyJ10 : Nat → FieldType := fun k => match k with
  | _ => .int
abbrev wsJ100 : List Cond := u_ws RJ10 TJ10 0
theorem nmJ10 : ∀ a, a < 0 → ∀ b, b < 0 → a ≠ b → (TJ10 a).2.1 ≠ (TJ10 b).2.1 := by decide +kernel
theorem tyJ10_ok : ∀ k, k < 0 → parseFieldDescriptor (TJ10 k).2.2.1 = some (tyJ10 k) := by decide +kernel
def RJ3 : String := "jdk/internal/util/Preconditions"
def TJ3 : u_T := fun k => match k with
  | _ => ("", "", "", false)
def tyJ3 : Nat → FieldType := fun k => match k with
  | _ => .int
abbrev wsJ30 : List Cond := u_ws RJ3 TJ3 0
theorem nmJ3 : ∀ a, a < 0 → ∀ b, b < 0 → a ≠ b → (TJ3 a).2.1 ≠ (TJ3 b).2.1 := by decide +kernel
theorem tyJ3_ok : ∀ k, k < 0 → parseFieldDescriptor (TJ3 k).2.2.1 = some (tyJ3 k) := by decide +kernel
abbrev cJ3_checkIndex_8e157 : ByteArray := prog_15_method_11_code
def yJ3_checkIndex_8e157 : MethodName := ⟨RJ3, "checkIndex", "(IILjava/util/function/BiFunction;)I"⟩
def RL : String := "WarmGossipLaw"
abbrev cL_law : ByteArray := code
def yL_law : MethodName := ⟨RL, "law", "([I)Z"⟩
abbrev vwCl : List vw_C := [(RX0, TX0, 6), (RX1, TX1, 11), (RX2, TX2, 3), (RX3, TX3, 3), (RX4, TX4, 5), (RX5, TX5, 10), (RX6, TX6, 26)]
